set_option maxHeartbeats 4000000 in
set_option maxRecDepth 100000 in
theorem c_X6_checkBalloon (l : Launch) (D : va_G) (cI cZ cS cJ : ClassId) (b : Nat) (hb8 : b < 8) : C0 l yX6_checkBalloon wsX6_checkBalloon ({ frames := 0, cells := 0, slots := 0, locals := 0 }) D (tyL cI cZ cS cJ) [.int (nI b)] (List.flatten []) none (List.flatten []) 0 0 := by
  refine C0_void (cc := cX6_checkBalloon) (maxL := 1) (by decide) rfl (Nat.le_of_ble_eq_true rfl) ?_
  intro p e s m below meth c A ls Q X hnm hK hP hD hS hA hl hend
  have X : CallFix p m c cX6_checkBalloon 1 s ([.int (nI b)] : List Value).toArray wsX6_checkBalloon RX6 := X
  obtain ⟨hx, hb, hml, hown, hts⟩ := id X
  have hl : lv_has ls 1 [(0, .int (nI b))] := hl
  refine lv_iload_n hx hb dX6_checkBalloon_0 rfl (lv_at hl 0 rfl) ?_
  refine n_iflt (i := b) (tgt := 10) hx hb (by omega) dX6_checkBalloon_1 (by decide) ?_
  refine lv_iload_n hx hb dX6_checkBalloon_4 rfl (lv_at hl 0 rfl) ?_
  refine lv_bipush (v := 8) hx hb dX6_checkBalloon_5 (by decide) ?_
  refine n_lt (i := b) (j := 8) (tgt := 21) hx hb (by omega) (by omega) dX6_checkBalloon_7 (by decide) (fun _ => ?_) (fun h => absurd h (by omega))
  exact hend _ _ _ _ hP hD hS dX6_checkBalloon_21

set_option maxHeartbeats 4000000 in
set_option maxRecDepth 100000 in
theorem c_X6_checkRibbon (l : Launch) (D : va_G) (cI cZ cS cJ : ClassId) (r : Nat) (hr7 : r < 7) : C0 l yX6_checkRibbon wsX6_checkRibbon ({ frames := 0, cells := 0, slots := 0, locals := 0 }) D (tyL cI cZ cS cJ) [.int (nI r)] (List.flatten []) none (List.flatten []) 0 0 := by
  refine C0_void (cc := cX6_checkRibbon) (maxL := 1) (by decide) rfl (Nat.le_of_ble_eq_true rfl) ?_
  intro p e s m below meth c A ls Q X hnm hK hP hD hS hA hl hend
  have X : CallFix p m c cX6_checkRibbon 1 s ([.int (nI r)] : List Value).toArray wsX6_checkRibbon RX6 := X
  obtain ⟨hx, hb, hml, hown, hts⟩ := id X
  have hl : lv_has ls 1 [(0, .int (nI r))] := hl
  refine lv_iload_n hx hb dX6_checkRibbon_0 rfl (lv_at hl 0 rfl) ?_
  refine n_iflt (i := r) (tgt := 10) hx hb (by omega) dX6_checkRibbon_1 (by decide) ?_
  refine lv_iload_n hx hb dX6_checkRibbon_4 rfl (lv_at hl 0 rfl) ?_
  refine lv_bipush (v := 7) hx hb dX6_checkRibbon_5 (by decide) ?_
  refine n_lt (i := r) (j := 7) (tgt := 21) hx hb (by omega) (by omega) dX6_checkRibbon_7 (by decide) (fun _ => ?_) (fun h => absurd h (by omega))
  exact hend _ _ _ _ hP hD hS dX6_checkRibbon_21

set_option maxHeartbeats 4000000 in
set_option maxRecDepth 100000 in
theorem c_X6_checkRange (l : Launch) (D : va_G) (cI cZ cS cJ : ClassId) (x : Int32) (lo : Int32) (hi : Int32) (h1 : ¬ x < lo) (h2 : x ≤ hi) : C0 l yX6_checkRange wsX6_checkRange ({ frames := 0, cells := 0, slots := 0, locals := 0 }) D (tyL cI cZ cS cJ) [.int x, .int lo, .int hi] (List.flatten []) none (List.flatten []) 0 0 := by
  refine C0_void (cc := cX6_checkRange) (maxL := 3) (by decide) rfl (Nat.le_of_ble_eq_true rfl) ?_
  intro p e s m below meth c A ls Q X hnm hK hP hD hS hA hl hend
  have X : CallFix p m c cX6_checkRange 3 s ([.int x, .int lo, .int hi] : List Value).toArray wsX6_checkRange RX6 := X
  obtain ⟨hx, hb, hml, hown, hts⟩ := id X
  have hl : lv_has ls 3 [(0, .int x), (1, .int lo), (2, .int hi)] := hl
  refine lv_iload_n hx hb dX6_checkRange_0 rfl (lv_at hl 0 rfl) ?_
  refine lv_iload_n hx hb dX6_checkRange_1 rfl (lv_at hl 1 rfl) ?_
  refine lv_icmp_lt (tgt := 10) hx hb dX6_checkRange_2 (by decide) (fun h => absurd h h1) (fun _ => ?_)
  refine lv_iload_n hx hb dX6_checkRange_5 rfl (lv_at hl 0 rfl) ?_
  refine lv_iload_n hx hb dX6_checkRange_6 rfl (lv_at hl 2 rfl) ?_
  refine lv_icmp_le (tgt := 21) hx hb dX6_checkRange_7 (by decide) (fun _ => ?_) (fun h => absurd h2 h)
  exact hend _ _ _ _ hP hD hS dX6_checkRange_21

set_option maxHeartbeats 4000000 in
set_option maxRecDepth 100000 in
theorem c_X6_balloon0 (l : Launch) (D : va_G) (cI cZ cS cJ : ClassId) (x0 : Nat) (p0 : Nat) (q0 : Nat) (t0 : Nat) (k0 : Nat) (f0 : Nat) (w0 : Int32) (a : Nat → Nat) (S : Nat → Nat → Int32) (b : Nat) (hb8 : b < 8) : C0 l yX6_balloon wsX6_balloon ({ frames := 3, cells := 0, slots := 0, locals := 67 }) D (tyL cI cZ cS cJ) [.ref x0, .int (nI b), .int 0] (List.flatten [rbC x0 (a 0) p0 q0 t0 k0 f0 w0, stO a (S 12 0) (S 12 1) (S 12 2) (S 12 3) (S 12 4) (S 12 5) (S 12 6) (S 12 7), flX cI cZ (a 1) (a 2) (a 3) (a 4) (a 5) (a 6) (a 7) (a 8) (S 0) (S 1) (S 2) (S 3) (S 4) (S 5) (S 6), ntX cI (a 9) (a 10) (a 11) (a 12) (S 7) (S 8) (S 9) (S 12 8), daX cI (a 13) (a 14) (S 10) (S 11)]) (some (.int (S 0 b))) (List.flatten [rbC x0 (a 0) p0 q0 t0 k0 f0 w0, stO a (S 12 0) (S 12 1) (S 12 2) (S 12 3) (S 12 4) (S 12 5) (S 12 6) (S 12 7), flX cI cZ (a 1) (a 2) (a 3) (a 4) (a 5) (a 6) (a 7) (a 8) (S 0) (S 1) (S 2) (S 3) (S 4) (S 5) (S 6), ntX cI (a 9) (a 10) (a 11) (a 12) (S 7) (S 8) (S 9) (S 12 8), daX cI (a 13) (a 14) (S 10) (S 11)]) 0 0 := by
  refine C0_int (cc := cX6_balloon) (maxL := 4) (rt := .int) (by decide) rfl (Nat.le_of_ble_eq_true rfl) (rfl) ?_
  intro p e s m below meth c A ls Q X hK hP hD hS hA hl hend
  have X : CallFix p m c cX6_balloon 4 s ([.ref x0, .int (nI b), .int 0] : List Value).toArray wsX6_balloon RX6 := X
  obtain ⟨hx, hb, hml, hown, hts⟩ := id X
  have hl : lv_has ls 4 [(0, .ref x0), (1, .int (nI b)), (2, .int 0)] := hl
  have hinX0 : ∀ w ∈ u_ws RX0 TX0 7, w ∈ wsX6_balloon := by decide +kernel
  have hinX4 : ∀ w ∈ u_ws RX4 TX4 12, w ∈ wsX6_balloon := by decide +kernel
  have hinX6 : ∀ w ∈ u_ws RX6 TX6 7, w ∈ wsX6_balloon := by decide +kernel
  refine lv_iload_n hx hb dX6_balloon_0 rfl (lv_at hl 1 rfl) ?_
  refine kcallS (As := [.int (nI b)]) (rest := []) (Wn := [rbC x0 (a 0) p0 q0 t0 k0 f0 w0, stO a (S 12 0) (S 12 1) (S 12 2) (S 12 3) (S 12 4) (S 12 5) (S 12 6) (S 12 7), flX cI cZ (a 1) (a 2) (a 3) (a 4) (a 5) (a 6) (a 7) (a 8) (S 0) (S 1) (S 2) (S 3) (S 4) (S 5) (S 6), ntX cI (a 9) (a 10) (a 11) (a 12) (S 7) (S 8) (S 9) (S 12 8), daX cI (a 13) (a 14) (S 10) (S 11)]) X (c_X6_checkBalloon l D cI cZ cS cJ b (by omega)) (va_cwS 1 hts gX6_balloon_X6_checkBalloon rfl rfl rfl (by decide +kernel) ⟨Nat.le_of_ble_eq_true rfl, Nat.le_of_ble_eq_true rfl⟩) hK hP hD hS hA [] rfl (by decide +kernel) rfl rfl rfl rfl hl.1 rfl (Nat.le_of_ble_eq_true rfl) dX6_balloon_1 ⟨Nat.le_of_ble_eq_true rfl, Nat.le_of_ble_eq_true rfl⟩ (fun H locs hP hD hS => ?_)
  refine lv_iload_n hx hb dX6_balloon_4 rfl (lv_at hl 2 rfl) ?_
  refine lv_iconst (v := 0) hx hb dX6_balloon_5 (by decide) ?_
  refine lv_bipush (v := 11) hx hb dX6_balloon_6 (by decide) ?_
  refine kcallS (As := [.int 0, .int 0, .int 11]) (rest := []) (Wn := [rbC x0 (a 0) p0 q0 t0 k0 f0 w0, stO a (S 12 0) (S 12 1) (S 12 2) (S 12 3) (S 12 4) (S 12 5) (S 12 6) (S 12 7), flX cI cZ (a 1) (a 2) (a 3) (a 4) (a 5) (a 6) (a 7) (a 8) (S 0) (S 1) (S 2) (S 3) (S 4) (S 5) (S 6), ntX cI (a 9) (a 10) (a 11) (a 12) (S 7) (S 8) (S 9) (S 12 8), daX cI (a 13) (a 14) (S 10) (S 11)]) X (c_X6_checkRange l D cI cZ cS cJ 0 0 11 (by decide) (by decide)) (va_cwS 3 hts gX6_balloon_X6_checkRange rfl rfl rfl (by decide +kernel) ⟨Nat.le_of_ble_eq_true rfl, Nat.le_of_ble_eq_true rfl⟩) hK hP hD hS hA [] rfl (by decide +kernel) rfl rfl rfl rfl hl.1 rfl (Nat.le_of_ble_eq_true rfl) dX6_balloon_8 ⟨Nat.le_of_ble_eq_true rfl, Nat.le_of_ble_eq_true rfl⟩ (fun H locs hP hD hS => ?_)
  refine lv_aload_n hx hb dX6_balloon_11 rfl (lv_at hl 0 rfl) ?_
  refine va_get (D := D) (ci := 6) (v := .ref (a 0)) (C := RX6) (T := TX6) (N := 7) hx hb hts hinX6 hown hK hP 0 rfl rfl 0 (by decide) (hts (.fieldLink RX6 12 "RibbonBalloons" "now" "LRibbonBalloons$State;") (by decide +kernel)) (fun _ h9 => h9) rfl dX6_balloon_12 ?_
  refine va_get (D := D) (ci := 4) (v := .ref (a 1)) (C := RX4) (T := TX4) (N := 12) hx hb hts hinX4 hown hK hP 1 rfl rfl 0 (by decide) (hts (.fieldLink RX6 62 "RibbonBalloons$State" "flock" "LRibbonBalloons$Flock;") (by decide +kernel)) (fun _ h9 => h9) rfl dX6_balloon_15 ?_
  refine lv_astore_n (lv' := [(3, .ref (a 1)), (0, .ref x0), (1, .int (nI b)), (2, .int 0)]) hx hb dX6_balloon_18 rfl hl (by decide) rfl (fun ls hl => ?_)
  refine lv_iload_n hx hb dX6_balloon_19 rfl (lv_at hl 3 rfl) ?_
  refine lv_tableIn (tgt := 80) hx hb dX6_balloon_20 (by decide) (by decide) rfl (by decide) ?_
  refine lv_aload_n hx hb dX6_balloon_80 rfl (lv_at hl 0 rfl) ?_
  refine va_get (D := D) (ci := 0) (v := .ref (a 2)) (C := RX0) (T := TX0) (N := 7) hx hb hts hinX0 hown hK hP 2 rfl rfl 0 (by decide) (hts (.fieldLink RX6 65 "RibbonBalloons$Flock" "gas" "[I") (by decide +kernel)) (fun _ h9 => h9) rfl dX6_balloon_81 ?_
  refine lv_iload_n hx hb dX6_balloon_84 rfl (lv_at hl 2 rfl) ?_
  refine r_iald hx hb hK hP 3 0 b (f := S 0) rfl rfl (by omega) (by omega) dX6_balloon_85 ?_
  refine hend _ _ _ _ _ ?_ hP hD hS dX6_balloon_86
  exact rfl

set_option maxHeartbeats 4000000 in
set_option maxRecDepth 100000 in
theorem c_X6_balloon1 (l : Launch) (D : va_G) (cI cZ cS cJ : ClassId) (x0 : Nat) (p0 : Nat) (q0 : Nat) (t0 : Nat) (k0 : Nat) (f0 : Nat) (w0 : Int32) (a : Nat → Nat) (S : Nat → Nat → Int32) (b : Nat) (hb8 : b < 8) : C0 l yX6_balloon wsX6_balloon ({ frames := 3, cells := 0, slots := 0, locals := 67 }) D (tyL cI cZ cS cJ) [.ref x0, .int (nI b), .int 1] (List.flatten [rbC x0 (a 0) p0 q0 t0 k0 f0 w0, stO a (S 12 0) (S 12 1) (S 12 2) (S 12 3) (S 12 4) (S 12 5) (S 12 6) (S 12 7), flX cI cZ (a 1) (a 2) (a 3) (a 4) (a 5) (a 6) (a 7) (a 8) (S 0) (S 1) (S 2) (S 3) (S 4) (S 5) (S 6), ntX cI (a 9) (a 10) (a 11) (a 12) (S 7) (S 8) (S 9) (S 12 8), daX cI (a 13) (a 14) (S 10) (S 11)]) (some (.int (S 1 b))) (List.flatten [rbC x0 (a 0) p0 q0 t0 k0 f0 w0, stO a (S 12 0) (S 12 1) (S 12 2) (S 12 3) (S 12 4) (S 12 5) (S 12 6) (S 12 7), flX cI cZ (a 1) (a 2) (a 3) (a 4) (a 5) (a 6) (a 7) (a 8) (S 0) (S 1) (S 2) (S 3) (S 4) (S 5) (S 6), ntX cI (a 9) (a 10) (a 11) (a 12) (S 7) (S 8) (S 9) (S 12 8), daX cI (a 13) (a 14) (S 10) (S 11)]) 0 0 := by
  refine C0_int (cc := cX6_balloon) (maxL := 4) (rt := .int) (by decide) rfl (Nat.le_of_ble_eq_true rfl) (rfl) ?_
  intro p e s m below meth c A ls Q X hK hP hD hS hA hl hend
  have X : CallFix p m c cX6_balloon 4 s ([.ref x0, .int (nI b), .int 1] : List Value).toArray wsX6_balloon RX6 := X
  obtain ⟨hx, hb, hml, hown, hts⟩ := id X
  have hl : lv_has ls 4 [(0, .ref x0), (1, .int (nI b)), (2, .int 1)] := hl
  have hinX0 : ∀ w ∈ u_ws RX0 TX0 7, w ∈ wsX6_balloon := by decide +kernel
  have hinX4 : ∀ w ∈ u_ws RX4 TX4 12, w ∈ wsX6_balloon := by decide +kernel
  have hinX6 : ∀ w ∈ u_ws RX6 TX6 7, w ∈ wsX6_balloon := by decide +kernel
  refine lv_iload_n hx hb dX6_balloon_0 rfl (lv_at hl 1 rfl) ?_
  refine kcallS (As := [.int (nI b)]) (rest := []) (Wn := [rbC x0 (a 0) p0 q0 t0 k0 f0 w0, stO a (S 12 0) (S 12 1) (S 12 2) (S 12 3) (S 12 4) (S 12 5) (S 12 6) (S 12 7), flX cI cZ (a 1) (a 2) (a 3) (a 4) (a 5) (a 6) (a 7) (a 8) (S 0) (S 1) (S 2) (S 3) (S 4) (S 5) (S 6), ntX cI (a 9) (a 10) (a 11) (a 12) (S 7) (S 8) (S 9) (S 12 8), daX cI (a 13) (a 14) (S 10) (S 11)]) X (c_X6_checkBalloon l D cI cZ cS cJ b (by omega)) (va_cwS 1 hts gX6_balloon_X6_checkBalloon rfl rfl rfl (by decide +kernel) ⟨Nat.le_of_ble_eq_true rfl, Nat.le_of_ble_eq_true rfl⟩) hK hP hD hS hA [] rfl (by decide +kernel) rfl rfl rfl rfl hl.1 rfl (Nat.le_of_ble_eq_true rfl) dX6_balloon_1 ⟨Nat.le_of_ble_eq_true rfl, Nat.le_of_ble_eq_true rfl⟩ (fun H locs hP hD hS => ?_)
  refine lv_iload_n hx hb dX6_balloon_4 rfl (lv_at hl 2 rfl) ?_
  refine lv_iconst (v := 0) hx hb dX6_balloon_5 (by decide) ?_
  refine lv_bipush (v := 11) hx hb dX6_balloon_6 (by decide) ?_
  refine kcallS (As := [.int 1, .int 0, .int 11]) (rest := []) (Wn := [rbC x0 (a 0) p0 q0 t0 k0 f0 w0, stO a (S 12 0) (S 12 1) (S 12 2) (S 12 3) (S 12 4) (S 12 5) (S 12 6) (S 12 7), flX cI cZ (a 1) (a 2) (a 3) (a 4) (a 5) (a 6) (a 7) (a 8) (S 0) (S 1) (S 2) (S 3) (S 4) (S 5) (S 6), ntX cI (a 9) (a 10) (a 11) (a 12) (S 7) (S 8) (S 9) (S 12 8), daX cI (a 13) (a 14) (S 10) (S 11)]) X (c_X6_checkRange l D cI cZ cS cJ 1 0 11 (by decide) (by decide)) (va_cwS 3 hts gX6_balloon_X6_checkRange rfl rfl rfl (by decide +kernel) ⟨Nat.le_of_ble_eq_true rfl, Nat.le_of_ble_eq_true rfl⟩) hK hP hD hS hA [] rfl (by decide +kernel) rfl rfl rfl rfl hl.1 rfl (Nat.le_of_ble_eq_true rfl) dX6_balloon_8 ⟨Nat.le_of_ble_eq_true rfl, Nat.le_of_ble_eq_true rfl⟩ (fun H locs hP hD hS => ?_)
  refine lv_aload_n hx hb dX6_balloon_11 rfl (lv_at hl 0 rfl) ?_
  refine va_get (D := D) (ci := 6) (v := .ref (a 0)) (C := RX6) (T := TX6) (N := 7) hx hb hts hinX6 hown hK hP 0 rfl rfl 0 (by decide) (hts (.fieldLink RX6 12 "RibbonBalloons" "now" "LRibbonBalloons$State;") (by decide +kernel)) (fun _ h9 => h9) rfl dX6_balloon_12 ?_
  refine va_get (D := D) (ci := 4) (v := .ref (a 1)) (C := RX4) (T := TX4) (N := 12) hx hb hts hinX4 hown hK hP 1 rfl rfl 0 (by decide) (hts (.fieldLink RX6 62 "RibbonBalloons$State" "flock" "LRibbonBalloons$Flock;") (by decide +kernel)) (fun _ h9 => h9) rfl dX6_balloon_15 ?_
  refine lv_astore_n (lv' := [(3, .ref (a 1)), (0, .ref x0), (1, .int (nI b)), (2, .int 1)]) hx hb dX6_balloon_18 rfl hl (by decide) rfl (fun ls hl => ?_)
  refine lv_iload_n hx hb dX6_balloon_19 rfl (lv_at hl 3 rfl) ?_
  refine lv_tableIn (tgt := 87) hx hb dX6_balloon_20 (by decide) (by decide) rfl (by decide) ?_
  refine lv_aload_n hx hb dX6_balloon_87 rfl (lv_at hl 0 rfl) ?_
  refine va_get (D := D) (ci := 0) (v := .ref (a 3)) (C := RX0) (T := TX0) (N := 7) hx hb hts hinX0 hown hK hP 2 rfl rfl 1 (by decide) (hts (.fieldLink RX6 72 "RibbonBalloons$Flock" "bags" "[I") (by decide +kernel)) (fun _ h9 => h9) rfl dX6_balloon_88 ?_
  refine lv_iload_n hx hb dX6_balloon_91 rfl (lv_at hl 2 rfl) ?_
  refine r_iald hx hb hK hP 4 0 b (f := S 1) rfl rfl (by omega) (by omega) dX6_balloon_92 ?_
  refine hend _ _ _ _ _ ?_ hP hD hS dX6_balloon_93
  exact rfl

set_option maxHeartbeats 4000000 in
set_option maxRecDepth 100000 in
theorem c_X6_balloon2 (l : Launch) (D : va_G) (cI cZ cS cJ : ClassId) (x0 : Nat) (p0 : Nat) (q0 : Nat) (t0 : Nat) (k0 : Nat) (f0 : Nat) (w0 : Int32) (a : Nat → Nat) (S : Nat → Nat → Int32) (b : Nat) (hb8 : b < 8) : C0 l yX6_balloon wsX6_balloon ({ frames := 3, cells := 0, slots := 0, locals := 67 }) D (tyL cI cZ cS cJ) [.ref x0, .int (nI b), .int 2] (List.flatten [rbC x0 (a 0) p0 q0 t0 k0 f0 w0, stO a (S 12 0) (S 12 1) (S 12 2) (S 12 3) (S 12 4) (S 12 5) (S 12 6) (S 12 7), flX cI cZ (a 1) (a 2) (a 3) (a 4) (a 5) (a 6) (a 7) (a 8) (S 0) (S 1) (S 2) (S 3) (S 4) (S 5) (S 6), ntX cI (a 9) (a 10) (a 11) (a 12) (S 7) (S 8) (S 9) (S 12 8), daX cI (a 13) (a 14) (S 10) (S 11)]) (some (.int (S 2 b))) (List.flatten [rbC x0 (a 0) p0 q0 t0 k0 f0 w0, stO a (S 12 0) (S 12 1) (S 12 2) (S 12 3) (S 12 4) (S 12 5) (S 12 6) (S 12 7), flX cI cZ (a 1) (a 2) (a 3) (a 4) (a 5) (a 6) (a 7) (a 8) (S 0) (S 1) (S 2) (S 3) (S 4) (S 5) (S 6), ntX cI (a 9) (a 10) (a 11) (a 12) (S 7) (S 8) (S 9) (S 12 8), daX cI (a 13) (a 14) (S 10) (S 11)]) 0 0 := by
  refine C0_int (cc := cX6_balloon) (maxL := 4) (rt := .int) (by decide) rfl (Nat.le_of_ble_eq_true rfl) (rfl) ?_
  intro p e s m below meth c A ls Q X hK hP hD hS hA hl hend
  have X : CallFix p m c cX6_balloon 4 s ([.ref x0, .int (nI b), .int 2] : List Value).toArray wsX6_balloon RX6 := X
  obtain ⟨hx, hb, hml, hown, hts⟩ := id X
  have hl : lv_has ls 4 [(0, .ref x0), (1, .int (nI b)), (2, .int 2)] := hl
  have hinX0 : ∀ w ∈ u_ws RX0 TX0 7, w ∈ wsX6_balloon := by decide +kernel
  have hinX4 : ∀ w ∈ u_ws RX4 TX4 12, w ∈ wsX6_balloon := by decide +kernel
  have hinX6 : ∀ w ∈ u_ws RX6 TX6 7, w ∈ wsX6_balloon := by decide +kernel
  refine lv_iload_n hx hb dX6_balloon_0 rfl (lv_at hl 1 rfl) ?_
  refine kcallS (As := [.int (nI b)]) (rest := []) (Wn := [rbC x0 (a 0) p0 q0 t0 k0 f0 w0, stO a (S 12 0) (S 12 1) (S 12 2) (S 12 3) (S 12 4) (S 12 5) (S 12 6) (S 12 7), flX cI cZ (a 1) (a 2) (a 3) (a 4) (a 5) (a 6) (a 7) (a 8) (S 0) (S 1) (S 2) (S 3) (S 4) (S 5) (S 6), ntX cI (a 9) (a 10) (a 11) (a 12) (S 7) (S 8) (S 9) (S 12 8), daX cI (a 13) (a 14) (S 10) (S 11)]) X (c_X6_checkBalloon l D cI cZ cS cJ b (by omega)) (va_cwS 1 hts gX6_balloon_X6_checkBalloon rfl rfl rfl (by decide +kernel) ⟨Nat.le_of_ble_eq_true rfl, Nat.le_of_ble_eq_true rfl⟩) hK hP hD hS hA [] rfl (by decide +kernel) rfl rfl rfl rfl hl.1 rfl (Nat.le_of_ble_eq_true rfl) dX6_balloon_1 ⟨Nat.le_of_ble_eq_true rfl, Nat.le_of_ble_eq_true rfl⟩ (fun H locs hP hD hS => ?_)
  refine lv_iload_n hx hb dX6_balloon_4 rfl (lv_at hl 2 rfl) ?_
  refine lv_iconst (v := 0) hx hb dX6_balloon_5 (by decide) ?_
  refine lv_bipush (v := 11) hx hb dX6_balloon_6 (by decide) ?_
  refine kcallS (As := [.int 2, .int 0, .int 11]) (rest := []) (Wn := [rbC x0 (a 0) p0 q0 t0 k0 f0 w0, stO a (S 12 0) (S 12 1) (S 12 2) (S 12 3) (S 12 4) (S 12 5) (S 12 6) (S 12 7), flX cI cZ (a 1) (a 2) (a 3) (a 4) (a 5) (a 6) (a 7) (a 8) (S 0) (S 1) (S 2) (S 3) (S 4) (S 5) (S 6), ntX cI (a 9) (a 10) (a 11) (a 12) (S 7) (S 8) (S 9) (S 12 8), daX cI (a 13) (a 14) (S 10) (S 11)]) X (c_X6_checkRange l D cI cZ cS cJ 2 0 11 (by decide) (by decide)) (va_cwS 3 hts gX6_balloon_X6_checkRange rfl rfl rfl (by decide +kernel) ⟨Nat.le_of_ble_eq_true rfl, Nat.le_of_ble_eq_true rfl⟩) hK hP hD hS hA [] rfl (by decide +kernel) rfl rfl rfl rfl hl.1 rfl (Nat.le_of_ble_eq_true rfl) dX6_balloon_8 ⟨Nat.le_of_ble_eq_true rfl, Nat.le_of_ble_eq_true rfl⟩ (fun H locs hP hD hS => ?_)
  refine lv_aload_n hx hb dX6_balloon_11 rfl (lv_at hl 0 rfl) ?_
  refine va_get (D := D) (ci := 6) (v := .ref (a 0)) (C := RX6) (T := TX6) (N := 7) hx hb hts hinX6 hown hK hP 0 rfl rfl 0 (by decide) (hts (.fieldLink RX6 12 "RibbonBalloons" "now" "LRibbonBalloons$State;") (by decide +kernel)) (fun _ h9 => h9) rfl dX6_balloon_12 ?_
  refine va_get (D := D) (ci := 4) (v := .ref (a 1)) (C := RX4) (T := TX4) (N := 12) hx hb hts hinX4 hown hK hP 1 rfl rfl 0 (by decide) (hts (.fieldLink RX6 62 "RibbonBalloons$State" "flock" "LRibbonBalloons$Flock;") (by decide +kernel)) (fun _ h9 => h9) rfl dX6_balloon_15 ?_
  refine lv_astore_n (lv' := [(3, .ref (a 1)), (0, .ref x0), (1, .int (nI b)), (2, .int 2)]) hx hb dX6_balloon_18 rfl hl (by decide) rfl (fun ls hl => ?_)
  refine lv_iload_n hx hb dX6_balloon_19 rfl (lv_at hl 3 rfl) ?_
  refine lv_tableIn (tgt := 94) hx hb dX6_balloon_20 (by decide) (by decide) rfl (by decide) ?_
  refine lv_aload_n hx hb dX6_balloon_94 rfl (lv_at hl 0 rfl) ?_
  refine va_get (D := D) (ci := 0) (v := .ref (a 4)) (C := RX0) (T := TX0) (N := 7) hx hb hts hinX0 hown hK hP 2 rfl rfl 2 (by decide) (hts (.fieldLink RX6 79 "RibbonBalloons$Flock" "leaks" "[I") (by decide +kernel)) (fun _ h9 => h9) rfl dX6_balloon_95 ?_
  refine lv_iload_n hx hb dX6_balloon_98 rfl (lv_at hl 2 rfl) ?_
  refine r_iald hx hb hK hP 5 0 b (f := S 2) rfl rfl (by omega) (by omega) dX6_balloon_99 ?_
  refine hend _ _ _ _ _ ?_ hP hD hS dX6_balloon_100
  exact rfl

set_option maxHeartbeats 4000000 in
set_option maxRecDepth 100000 in
theorem c_X6_balloon3 (l : Launch) (D : va_G) (cI cZ cS cJ : ClassId) (x0 : Nat) (p0 : Nat) (q0 : Nat) (t0 : Nat) (k0 : Nat) (f0 : Nat) (w0 : Int32) (a : Nat → Nat) (S : Nat → Nat → Int32) (b : Nat) (hb8 : b < 8) : C0 l yX6_balloon wsX6_balloon ({ frames := 3, cells := 0, slots := 0, locals := 67 }) D (tyL cI cZ cS cJ) [.ref x0, .int (nI b), .int 3] (List.flatten [rbC x0 (a 0) p0 q0 t0 k0 f0 w0, stO a (S 12 0) (S 12 1) (S 12 2) (S 12 3) (S 12 4) (S 12 5) (S 12 6) (S 12 7), flX cI cZ (a 1) (a 2) (a 3) (a 4) (a 5) (a 6) (a 7) (a 8) (S 0) (S 1) (S 2) (S 3) (S 4) (S 5) (S 6), ntX cI (a 9) (a 10) (a 11) (a 12) (S 7) (S 8) (S 9) (S 12 8), daX cI (a 13) (a 14) (S 10) (S 11)]) (some (.int (lift S b))) (List.flatten [rbC x0 (a 0) p0 q0 t0 k0 f0 w0, stO a (S 12 0) (S 12 1) (S 12 2) (S 12 3) (S 12 4) (S 12 5) (S 12 6) (S 12 7), flX cI cZ (a 1) (a 2) (a 3) (a 4) (a 5) (a 6) (a 7) (a 8) (S 0) (S 1) (S 2) (S 3) (S 4) (S 5) (S 6), ntX cI (a 9) (a 10) (a 11) (a 12) (S 7) (S 8) (S 9) (S 12 8), daX cI (a 13) (a 14) (S 10) (S 11)]) 0 0 := by
  refine C0_int (cc := cX6_balloon) (maxL := 4) (rt := .int) (by decide) rfl (Nat.le_of_ble_eq_true rfl) (rfl) ?_
  intro p e s m below meth c A ls Q X hK hP hD hS hA hl hend
  have X : CallFix p m c cX6_balloon 4 s ([.ref x0, .int (nI b), .int 3] : List Value).toArray wsX6_balloon RX6 := X
  obtain ⟨hx, hb, hml, hown, hts⟩ := id X
  have hl : lv_has ls 4 [(0, .ref x0), (1, .int (nI b)), (2, .int 3)] := hl
  have hinX4 : ∀ w ∈ u_ws RX4 TX4 12, w ∈ wsX6_balloon := by decide +kernel
  have hinX6 : ∀ w ∈ u_ws RX6 TX6 7, w ∈ wsX6_balloon := by decide +kernel
  refine lv_iload_n hx hb dX6_balloon_0 rfl (lv_at hl 1 rfl) ?_
  refine kcallS (As := [.int (nI b)]) (rest := []) (Wn := [rbC x0 (a 0) p0 q0 t0 k0 f0 w0, stO a (S 12 0) (S 12 1) (S 12 2) (S 12 3) (S 12 4) (S 12 5) (S 12 6) (S 12 7), flX cI cZ (a 1) (a 2) (a 3) (a 4) (a 5) (a 6) (a 7) (a 8) (S 0) (S 1) (S 2) (S 3) (S 4) (S 5) (S 6), ntX cI (a 9) (a 10) (a 11) (a 12) (S 7) (S 8) (S 9) (S 12 8), daX cI (a 13) (a 14) (S 10) (S 11)]) X (c_X6_checkBalloon l D cI cZ cS cJ b (by omega)) (va_cwS 1 hts gX6_balloon_X6_checkBalloon rfl rfl rfl (by decide +kernel) ⟨Nat.le_of_ble_eq_true rfl, Nat.le_of_ble_eq_true rfl⟩) hK hP hD hS hA [] rfl (by decide +kernel) rfl rfl rfl rfl hl.1 rfl (Nat.le_of_ble_eq_true rfl) dX6_balloon_1 ⟨Nat.le_of_ble_eq_true rfl, Nat.le_of_ble_eq_true rfl⟩ (fun H locs hP hD hS => ?_)
  refine lv_iload_n hx hb dX6_balloon_4 rfl (lv_at hl 2 rfl) ?_
  refine lv_iconst (v := 0) hx hb dX6_balloon_5 (by decide) ?_
  refine lv_bipush (v := 11) hx hb dX6_balloon_6 (by decide) ?_
  refine kcallS (As := [.int 3, .int 0, .int 11]) (rest := []) (Wn := [rbC x0 (a 0) p0 q0 t0 k0 f0 w0, stO a (S 12 0) (S 12 1) (S 12 2) (S 12 3) (S 12 4) (S 12 5) (S 12 6) (S 12 7), flX cI cZ (a 1) (a 2) (a 3) (a 4) (a 5) (a 6) (a 7) (a 8) (S 0) (S 1) (S 2) (S 3) (S 4) (S 5) (S 6), ntX cI (a 9) (a 10) (a 11) (a 12) (S 7) (S 8) (S 9) (S 12 8), daX cI (a 13) (a 14) (S 10) (S 11)]) X (c_X6_checkRange l D cI cZ cS cJ 3 0 11 (by decide) (by decide)) (va_cwS 3 hts gX6_balloon_X6_checkRange rfl rfl rfl (by decide +kernel) ⟨Nat.le_of_ble_eq_true rfl, Nat.le_of_ble_eq_true rfl⟩) hK hP hD hS hA [] rfl (by decide +kernel) rfl rfl rfl rfl hl.1 rfl (Nat.le_of_ble_eq_true rfl) dX6_balloon_8 ⟨Nat.le_of_ble_eq_true rfl, Nat.le_of_ble_eq_true rfl⟩ (fun H locs hP hD hS => ?_)
  refine lv_aload_n hx hb dX6_balloon_11 rfl (lv_at hl 0 rfl) ?_
  refine va_get (D := D) (ci := 6) (v := .ref (a 0)) (C := RX6) (T := TX6) (N := 7) hx hb hts hinX6 hown hK hP 0 rfl rfl 0 (by decide) (hts (.fieldLink RX6 12 "RibbonBalloons" "now" "LRibbonBalloons$State;") (by decide +kernel)) (fun _ h9 => h9) rfl dX6_balloon_12 ?_
  refine va_get (D := D) (ci := 4) (v := .ref (a 1)) (C := RX4) (T := TX4) (N := 12) hx hb hts hinX4 hown hK hP 1 rfl rfl 0 (by decide) (hts (.fieldLink RX6 62 "RibbonBalloons$State" "flock" "LRibbonBalloons$Flock;") (by decide +kernel)) (fun _ h9 => h9) rfl dX6_balloon_15 ?_
  refine lv_astore_n (lv' := [(3, .ref (a 1)), (0, .ref x0), (1, .int (nI b)), (2, .int 3)]) hx hb dX6_balloon_18 rfl hl (by decide) rfl (fun ls hl => ?_)
  refine lv_iload_n hx hb dX6_balloon_19 rfl (lv_at hl 3 rfl) ?_
  refine lv_tableIn (tgt := 101) hx hb dX6_balloon_20 (by decide) (by decide) rfl (by decide) ?_
  refine lv_aload_n hx hb dX6_balloon_101 rfl (lv_at hl 0 rfl) ?_
  refine lv_iload_n hx hb dX6_balloon_102 rfl (lv_at hl 2 rfl) ?_
  refine kcallV (As := [.int (nI b)]) (rest := []) (Wn := [rbC x0 (a 0) p0 q0 t0 k0 f0 w0, stO a (S 12 0) (S 12 1) (S 12 2) (S 12 3) (S 12 4) (S 12 5) (S 12 6) (S 12 7), flX cI cZ (a 1) (a 2) (a 3) (a 4) (a 5) (a 6) (a 7) (a 8) (S 0) (S 1) (S 2) (S 3) (S 4) (S 5) (S 6), ntX cI (a 9) (a 10) (a 11) (a 12) (S 7) (S 8) (S 9) (S 12 8), daX cI (a 13) (a 14) (S 10) (S 11)]) X (c_X0_lift l D cI cZ cS cJ (a 1) (a 2) (a 3) (a 4) (a 5) (a 6) (a 7) (a 8) S b (by omega)) (cwV 1 hts gX6_balloon_X0_lift rfl rfl rfl (by decide +kernel) ⟨Nat.le_of_ble_eq_true rfl, Nat.le_of_ble_eq_true rfl⟩) hK hP hD hS hA [2] rfl (by decide +kernel) rfl rfl rfl 2 0 rfl rfl rfl hl.1 rfl (Nat.le_of_ble_eq_true rfl) dX6_balloon_103 ⟨Nat.le_of_ble_eq_true rfl, Nat.le_of_ble_eq_true rfl⟩ (fun H locs hP hD hS => ?_)
  refine hend _ _ _ _ _ ?_ hP hD hS dX6_balloon_106
  exact rfl

set_option maxHeartbeats 4000000 in
set_option maxRecDepth 100000 in
theorem c_X6_balloon4 (l : Launch) (D : va_G) (cI cZ cS cJ : ClassId) (x0 : Nat) (p0 : Nat) (q0 : Nat) (t0 : Nat) (k0 : Nat) (f0 : Nat) (w0 : Int32) (a : Nat → Nat) (S : Nat → Nat → Int32) (b : Nat) (hb8 : b < 8) : C0 l yX6_balloon wsX6_balloon ({ frames := 3, cells := 0, slots := 0, locals := 67 }) D (tyL cI cZ cS cJ) [.ref x0, .int (nI b), .int 4] (List.flatten [rbC x0 (a 0) p0 q0 t0 k0 f0 w0, stO a (S 12 0) (S 12 1) (S 12 2) (S 12 3) (S 12 4) (S 12 5) (S 12 6) (S 12 7), flX cI cZ (a 1) (a 2) (a 3) (a 4) (a 5) (a 6) (a 7) (a 8) (S 0) (S 1) (S 2) (S 3) (S 4) (S 5) (S 6), ntX cI (a 9) (a 10) (a 11) (a 12) (S 7) (S 8) (S 9) (S 12 8), daX cI (a 13) (a 14) (S 10) (S 11)]) (some (.int (wt S b))) (List.flatten [rbC x0 (a 0) p0 q0 t0 k0 f0 w0, stO a (S 12 0) (S 12 1) (S 12 2) (S 12 3) (S 12 4) (S 12 5) (S 12 6) (S 12 7), flX cI cZ (a 1) (a 2) (a 3) (a 4) (a 5) (a 6) (a 7) (a 8) (S 0) (S 1) (S 2) (S 3) (S 4) (S 5) (S 6), ntX cI (a 9) (a 10) (a 11) (a 12) (S 7) (S 8) (S 9) (S 12 8), daX cI (a 13) (a 14) (S 10) (S 11)]) 0 0 := by
  refine C0_int (cc := cX6_balloon) (maxL := 4) (rt := .int) (by decide) rfl (Nat.le_of_ble_eq_true rfl) (rfl) ?_
  intro p e s m below meth c A ls Q X hK hP hD hS hA hl hend
  have X : CallFix p m c cX6_balloon 4 s ([.ref x0, .int (nI b), .int 4] : List Value).toArray wsX6_balloon RX6 := X
  obtain ⟨hx, hb, hml, hown, hts⟩ := id X
  have hl : lv_has ls 4 [(0, .ref x0), (1, .int (nI b)), (2, .int 4)] := hl
  have hinX4 : ∀ w ∈ u_ws RX4 TX4 12, w ∈ wsX6_balloon := by decide +kernel
  have hinX6 : ∀ w ∈ u_ws RX6 TX6 7, w ∈ wsX6_balloon := by decide +kernel
  refine lv_iload_n hx hb dX6_balloon_0 rfl (lv_at hl 1 rfl) ?_
  refine kcallS (As := [.int (nI b)]) (rest := []) (Wn := [rbC x0 (a 0) p0 q0 t0 k0 f0 w0, stO a (S 12 0) (S 12 1) (S 12 2) (S 12 3) (S 12 4) (S 12 5) (S 12 6) (S 12 7), flX cI cZ (a 1) (a 2) (a 3) (a 4) (a 5) (a 6) (a 7) (a 8) (S 0) (S 1) (S 2) (S 3) (S 4) (S 5) (S 6), ntX cI (a 9) (a 10) (a 11) (a 12) (S 7) (S 8) (S 9) (S 12 8), daX cI (a 13) (a 14) (S 10) (S 11)]) X (c_X6_checkBalloon l D cI cZ cS cJ b (by omega)) (va_cwS 1 hts gX6_balloon_X6_checkBalloon rfl rfl rfl (by decide +kernel) ⟨Nat.le_of_ble_eq_true rfl, Nat.le_of_ble_eq_true rfl⟩) hK hP hD hS hA [] rfl (by decide +kernel) rfl rfl rfl rfl hl.1 rfl (Nat.le_of_ble_eq_true rfl) dX6_balloon_1 ⟨Nat.le_of_ble_eq_true rfl, Nat.le_of_ble_eq_true rfl⟩ (fun H locs hP hD hS => ?_)
  refine lv_iload_n hx hb dX6_balloon_4 rfl (lv_at hl 2 rfl) ?_
  refine lv_iconst (v := 0) hx hb dX6_balloon_5 (by decide) ?_
  refine lv_bipush (v := 11) hx hb dX6_balloon_6 (by decide) ?_
  refine kcallS (As := [.int 4, .int 0, .int 11]) (rest := []) (Wn := [rbC x0 (a 0) p0 q0 t0 k0 f0 w0, stO a (S 12 0) (S 12 1) (S 12 2) (S 12 3) (S 12 4) (S 12 5) (S 12 6) (S 12 7), flX cI cZ (a 1) (a 2) (a 3) (a 4) (a 5) (a 6) (a 7) (a 8) (S 0) (S 1) (S 2) (S 3) (S 4) (S 5) (S 6), ntX cI (a 9) (a 10) (a 11) (a 12) (S 7) (S 8) (S 9) (S 12 8), daX cI (a 13) (a 14) (S 10) (S 11)]) X (c_X6_checkRange l D cI cZ cS cJ 4 0 11 (by decide) (by decide)) (va_cwS 3 hts gX6_balloon_X6_checkRange rfl rfl rfl (by decide +kernel) ⟨Nat.le_of_ble_eq_true rfl, Nat.le_of_ble_eq_true rfl⟩) hK hP hD hS hA [] rfl (by decide +kernel) rfl rfl rfl rfl hl.1 rfl (Nat.le_of_ble_eq_true rfl) dX6_balloon_8 ⟨Nat.le_of_ble_eq_true rfl, Nat.le_of_ble_eq_true rfl⟩ (fun H locs hP hD hS => ?_)
  refine lv_aload_n hx hb dX6_balloon_11 rfl (lv_at hl 0 rfl) ?_
  refine va_get (D := D) (ci := 6) (v := .ref (a 0)) (C := RX6) (T := TX6) (N := 7) hx hb hts hinX6 hown hK hP 0 rfl rfl 0 (by decide) (hts (.fieldLink RX6 12 "RibbonBalloons" "now" "LRibbonBalloons$State;") (by decide +kernel)) (fun _ h9 => h9) rfl dX6_balloon_12 ?_
  refine va_get (D := D) (ci := 4) (v := .ref (a 1)) (C := RX4) (T := TX4) (N := 12) hx hb hts hinX4 hown hK hP 1 rfl rfl 0 (by decide) (hts (.fieldLink RX6 62 "RibbonBalloons$State" "flock" "LRibbonBalloons$Flock;") (by decide +kernel)) (fun _ h9 => h9) rfl dX6_balloon_15 ?_
  refine lv_astore_n (lv' := [(3, .ref (a 1)), (0, .ref x0), (1, .int (nI b)), (2, .int 4)]) hx hb dX6_balloon_18 rfl hl (by decide) rfl (fun ls hl => ?_)
  refine lv_iload_n hx hb dX6_balloon_19 rfl (lv_at hl 3 rfl) ?_
  refine lv_tableIn (tgt := 107) hx hb dX6_balloon_20 (by decide) (by decide) rfl (by decide) ?_
  refine lv_aload_n hx hb dX6_balloon_107 rfl (lv_at hl 0 rfl) ?_
  refine lv_iload_n hx hb dX6_balloon_108 rfl (lv_at hl 2 rfl) ?_
  refine kcallV (As := [.int (nI b)]) (rest := []) (Wn := [rbC x0 (a 0) p0 q0 t0 k0 f0 w0, stO a (S 12 0) (S 12 1) (S 12 2) (S 12 3) (S 12 4) (S 12 5) (S 12 6) (S 12 7), flX cI cZ (a 1) (a 2) (a 3) (a 4) (a 5) (a 6) (a 7) (a 8) (S 0) (S 1) (S 2) (S 3) (S 4) (S 5) (S 6), ntX cI (a 9) (a 10) (a 11) (a 12) (S 7) (S 8) (S 9) (S 12 8), daX cI (a 13) (a 14) (S 10) (S 11)]) X (c_X0_wanted l D cI cZ cS cJ (a 1) (a 2) (a 3) (a 4) (a 5) (a 6) (a 7) (a 8) S b (by omega)) (cwV 1 hts gX6_balloon_X0_wanted rfl rfl rfl (by decide +kernel) ⟨Nat.le_of_ble_eq_true rfl, Nat.le_of_ble_eq_true rfl⟩) hK hP hD hS hA [2] rfl (by decide +kernel) rfl rfl rfl 2 0 rfl rfl rfl hl.1 rfl (Nat.le_of_ble_eq_true rfl) dX6_balloon_109 ⟨Nat.le_of_ble_eq_true rfl, Nat.le_of_ble_eq_true rfl⟩ (fun H locs hP hD hS => ?_)
  refine hend _ _ _ _ _ ?_ hP hD hS dX6_balloon_112
  exact rfl

set_option maxHeartbeats 4000000 in
set_option maxRecDepth 100000 in
theorem c_X6_balloon5 (l : Launch) (D : va_G) (cI cZ cS cJ : ClassId) (x0 : Nat) (p0 : Nat) (q0 : Nat) (t0 : Nat) (k0 : Nat) (f0 : Nat) (w0 : Int32) (a : Nat → Nat) (S : Nat → Nat → Int32) (b : Nat) (hb8 : b < 8) : C0 l yX6_balloon wsX6_balloon ({ frames := 3, cells := 0, slots := 0, locals := 67 }) D (tyL cI cZ cS cJ) [.ref x0, .int (nI b), .int 5] (List.flatten [rbC x0 (a 0) p0 q0 t0 k0 f0 w0, stO a (S 12 0) (S 12 1) (S 12 2) (S 12 3) (S 12 4) (S 12 5) (S 12 6) (S 12 7), flX cI cZ (a 1) (a 2) (a 3) (a 4) (a 5) (a 6) (a 7) (a 8) (S 0) (S 1) (S 2) (S 3) (S 4) (S 5) (S 6), ntX cI (a 9) (a 10) (a 11) (a 12) (S 7) (S 8) (S 9) (S 12 8), daX cI (a 13) (a 14) (S 10) (S 11)]) (some (.int (S 6 b))) (List.flatten [rbC x0 (a 0) p0 q0 t0 k0 f0 w0, stO a (S 12 0) (S 12 1) (S 12 2) (S 12 3) (S 12 4) (S 12 5) (S 12 6) (S 12 7), flX cI cZ (a 1) (a 2) (a 3) (a 4) (a 5) (a 6) (a 7) (a 8) (S 0) (S 1) (S 2) (S 3) (S 4) (S 5) (S 6), ntX cI (a 9) (a 10) (a 11) (a 12) (S 7) (S 8) (S 9) (S 12 8), daX cI (a 13) (a 14) (S 10) (S 11)]) 0 0 := by
  refine C0_int (cc := cX6_balloon) (maxL := 4) (rt := .int) (by decide) rfl (Nat.le_of_ble_eq_true rfl) (rfl) ?_
  intro p e s m below meth c A ls Q X hK hP hD hS hA hl hend
  have X : CallFix p m c cX6_balloon 4 s ([.ref x0, .int (nI b), .int 5] : List Value).toArray wsX6_balloon RX6 := X
  obtain ⟨hx, hb, hml, hown, hts⟩ := id X
  have hl : lv_has ls 4 [(0, .ref x0), (1, .int (nI b)), (2, .int 5)] := hl
  have hinX0 : ∀ w ∈ u_ws RX0 TX0 7, w ∈ wsX6_balloon := by decide +kernel
  have hinX4 : ∀ w ∈ u_ws RX4 TX4 12, w ∈ wsX6_balloon := by decide +kernel
  have hinX6 : ∀ w ∈ u_ws RX6 TX6 7, w ∈ wsX6_balloon := by decide +kernel
  refine lv_iload_n hx hb dX6_balloon_0 rfl (lv_at hl 1 rfl) ?_
  refine kcallS (As := [.int (nI b)]) (rest := []) (Wn := [rbC x0 (a 0) p0 q0 t0 k0 f0 w0, stO a (S 12 0) (S 12 1) (S 12 2) (S 12 3) (S 12 4) (S 12 5) (S 12 6) (S 12 7), flX cI cZ (a 1) (a 2) (a 3) (a 4) (a 5) (a 6) (a 7) (a 8) (S 0) (S 1) (S 2) (S 3) (S 4) (S 5) (S 6), ntX cI (a 9) (a 10) (a 11) (a 12) (S 7) (S 8) (S 9) (S 12 8), daX cI (a 13) (a 14) (S 10) (S 11)]) X (c_X6_checkBalloon l D cI cZ cS cJ b (by omega)) (va_cwS 1 hts gX6_balloon_X6_checkBalloon rfl rfl rfl (by decide +kernel) ⟨Nat.le_of_ble_eq_true rfl, Nat.le_of_ble_eq_true rfl⟩) hK hP hD hS hA [] rfl (by decide +kernel) rfl rfl rfl rfl hl.1 rfl (Nat.le_of_ble_eq_true rfl) dX6_balloon_1 ⟨Nat.le_of_ble_eq_true rfl, Nat.le_of_ble_eq_true rfl⟩ (fun H locs hP hD hS => ?_)
  refine lv_iload_n hx hb dX6_balloon_4 rfl (lv_at hl 2 rfl) ?_
  refine lv_iconst (v := 0) hx hb dX6_balloon_5 (by decide) ?_
  refine lv_bipush (v := 11) hx hb dX6_balloon_6 (by decide) ?_
  refine kcallS (As := [.int 5, .int 0, .int 11]) (rest := []) (Wn := [rbC x0 (a 0) p0 q0 t0 k0 f0 w0, stO a (S 12 0) (S 12 1) (S 12 2) (S 12 3) (S 12 4) (S 12 5) (S 12 6) (S 12 7), flX cI cZ (a 1) (a 2) (a 3) (a 4) (a 5) (a 6) (a 7) (a 8) (S 0) (S 1) (S 2) (S 3) (S 4) (S 5) (S 6), ntX cI (a 9) (a 10) (a 11) (a 12) (S 7) (S 8) (S 9) (S 12 8), daX cI (a 13) (a 14) (S 10) (S 11)]) X (c_X6_checkRange l D cI cZ cS cJ 5 0 11 (by decide) (by decide)) (va_cwS 3 hts gX6_balloon_X6_checkRange rfl rfl rfl (by decide +kernel) ⟨Nat.le_of_ble_eq_true rfl, Nat.le_of_ble_eq_true rfl⟩) hK hP hD hS hA [] rfl (by decide +kernel) rfl rfl rfl rfl hl.1 rfl (Nat.le_of_ble_eq_true rfl) dX6_balloon_8 ⟨Nat.le_of_ble_eq_true rfl, Nat.le_of_ble_eq_true rfl⟩ (fun H locs hP hD hS => ?_)
  refine lv_aload_n hx hb dX6_balloon_11 rfl (lv_at hl 0 rfl) ?_
  refine va_get (D := D) (ci := 6) (v := .ref (a 0)) (C := RX6) (T := TX6) (N := 7) hx hb hts hinX6 hown hK hP 0 rfl rfl 0 (by decide) (hts (.fieldLink RX6 12 "RibbonBalloons" "now" "LRibbonBalloons$State;") (by decide +kernel)) (fun _ h9 => h9) rfl dX6_balloon_12 ?_
  refine va_get (D := D) (ci := 4) (v := .ref (a 1)) (C := RX4) (T := TX4) (N := 12) hx hb hts hinX4 hown hK hP 1 rfl rfl 0 (by decide) (hts (.fieldLink RX6 62 "RibbonBalloons$State" "flock" "LRibbonBalloons$Flock;") (by decide +kernel)) (fun _ h9 => h9) rfl dX6_balloon_15 ?_
  refine lv_astore_n (lv' := [(3, .ref (a 1)), (0, .ref x0), (1, .int (nI b)), (2, .int 5)]) hx hb dX6_balloon_18 rfl hl (by decide) rfl (fun ls hl => ?_)
  refine lv_iload_n hx hb dX6_balloon_19 rfl (lv_at hl 3 rfl) ?_
  refine lv_tableIn (tgt := 113) hx hb dX6_balloon_20 (by decide) (by decide) rfl (by decide) ?_
  refine lv_aload_n hx hb dX6_balloon_113 rfl (lv_at hl 0 rfl) ?_
  refine va_get (D := D) (ci := 0) (v := .ref (a 8)) (C := RX0) (T := TX0) (N := 7) hx hb hts hinX0 hown hK hP 2 rfl rfl 6 (by decide) (hts (.fieldLink RX6 69 "RibbonBalloons$Flock" "heights" "[I") (by decide +kernel)) (fun _ h9 => h9) rfl dX6_balloon_114 ?_
  refine lv_iload_n hx hb dX6_balloon_117 rfl (lv_at hl 2 rfl) ?_
  refine r_iald hx hb hK hP 9 0 b (f := S 6) rfl rfl (by omega) (by omega) dX6_balloon_118 ?_
  refine hend _ _ _ _ _ ?_ hP hD hS dX6_balloon_119
  exact rfl

set_option maxHeartbeats 4000000 in
set_option maxRecDepth 100000 in
theorem c_X6_balloon6 (l : Launch) (D : va_G) (cI cZ cS cJ : ClassId) (x0 : Nat) (p0 : Nat) (q0 : Nat) (t0 : Nat) (k0 : Nat) (f0 : Nat) (w0 : Int32) (a : Nat → Nat) (S : Nat → Nat → Int32) (b : Nat) (hb8 : b < 8) : C0 l yX6_balloon wsX6_balloon ({ frames := 3, cells := 0, slots := 0, locals := 67 }) D (tyL cI cZ cS cJ) [.ref x0, .int (nI b), .int 6] (List.flatten [rbC x0 (a 0) p0 q0 t0 k0 f0 w0, stO a (S 12 0) (S 12 1) (S 12 2) (S 12 3) (S 12 4) (S 12 5) (S 12 6) (S 12 7), flX cI cZ (a 1) (a 2) (a 3) (a 4) (a 5) (a 6) (a 7) (a 8) (S 0) (S 1) (S 2) (S 3) (S 4) (S 5) (S 6), ntX cI (a 9) (a 10) (a 11) (a 12) (S 7) (S 8) (S 9) (S 12 8), daX cI (a 13) (a 14) (S 10) (S 11)]) (some (.int (hbs S b))) (List.flatten [rbC x0 (a 0) p0 q0 t0 k0 f0 w0, stO a (S 12 0) (S 12 1) (S 12 2) (S 12 3) (S 12 4) (S 12 5) (S 12 6) (S 12 7), flX cI cZ (a 1) (a 2) (a 3) (a 4) (a 5) (a 6) (a 7) (a 8) (S 0) (S 1) (S 2) (S 3) (S 4) (S 5) (S 6), ntX cI (a 9) (a 10) (a 11) (a 12) (S 7) (S 8) (S 9) (S 12 8), daX cI (a 13) (a 14) (S 10) (S 11)]) 0 0 := by
  refine C0_int (cc := cX6_balloon) (maxL := 4) (rt := .int) (by decide) rfl (Nat.le_of_ble_eq_true rfl) (rfl) ?_
  intro p e s m below meth c A ls Q X hK hP hD hS hA hl hend
  have X : CallFix p m c cX6_balloon 4 s ([.ref x0, .int (nI b), .int 6] : List Value).toArray wsX6_balloon RX6 := X
  obtain ⟨hx, hb, hml, hown, hts⟩ := id X
  have hl : lv_has ls 4 [(0, .ref x0), (1, .int (nI b)), (2, .int 6)] := hl
  have hinX4 : ∀ w ∈ u_ws RX4 TX4 12, w ∈ wsX6_balloon := by decide +kernel
  have hinX6 : ∀ w ∈ u_ws RX6 TX6 7, w ∈ wsX6_balloon := by decide +kernel
  refine lv_iload_n hx hb dX6_balloon_0 rfl (lv_at hl 1 rfl) ?_
  refine kcallS (As := [.int (nI b)]) (rest := []) (Wn := [rbC x0 (a 0) p0 q0 t0 k0 f0 w0, stO a (S 12 0) (S 12 1) (S 12 2) (S 12 3) (S 12 4) (S 12 5) (S 12 6) (S 12 7), flX cI cZ (a 1) (a 2) (a 3) (a 4) (a 5) (a 6) (a 7) (a 8) (S 0) (S 1) (S 2) (S 3) (S 4) (S 5) (S 6), ntX cI (a 9) (a 10) (a 11) (a 12) (S 7) (S 8) (S 9) (S 12 8), daX cI (a 13) (a 14) (S 10) (S 11)]) X (c_X6_checkBalloon l D cI cZ cS cJ b (by omega)) (va_cwS 1 hts gX6_balloon_X6_checkBalloon rfl rfl rfl (by decide +kernel) ⟨Nat.le_of_ble_eq_true rfl, Nat.le_of_ble_eq_true rfl⟩) hK hP hD hS hA [] rfl (by decide +kernel) rfl rfl rfl rfl hl.1 rfl (Nat.le_of_ble_eq_true rfl) dX6_balloon_1 ⟨Nat.le_of_ble_eq_true rfl, Nat.le_of_ble_eq_true rfl⟩ (fun H locs hP hD hS => ?_)
  refine lv_iload_n hx hb dX6_balloon_4 rfl (lv_at hl 2 rfl) ?_
  refine lv_iconst (v := 0) hx hb dX6_balloon_5 (by decide) ?_
  refine lv_bipush (v := 11) hx hb dX6_balloon_6 (by decide) ?_
  refine kcallS (As := [.int 6, .int 0, .int 11]) (rest := []) (Wn := [rbC x0 (a 0) p0 q0 t0 k0 f0 w0, stO a (S 12 0) (S 12 1) (S 12 2) (S 12 3) (S 12 4) (S 12 5) (S 12 6) (S 12 7), flX cI cZ (a 1) (a 2) (a 3) (a 4) (a 5) (a 6) (a 7) (a 8) (S 0) (S 1) (S 2) (S 3) (S 4) (S 5) (S 6), ntX cI (a 9) (a 10) (a 11) (a 12) (S 7) (S 8) (S 9) (S 12 8), daX cI (a 13) (a 14) (S 10) (S 11)]) X (c_X6_checkRange l D cI cZ cS cJ 6 0 11 (by decide) (by decide)) (va_cwS 3 hts gX6_balloon_X6_checkRange rfl rfl rfl (by decide +kernel) ⟨Nat.le_of_ble_eq_true rfl, Nat.le_of_ble_eq_true rfl⟩) hK hP hD hS hA [] rfl (by decide +kernel) rfl rfl rfl rfl hl.1 rfl (Nat.le_of_ble_eq_true rfl) dX6_balloon_8 ⟨Nat.le_of_ble_eq_true rfl, Nat.le_of_ble_eq_true rfl⟩ (fun H locs hP hD hS => ?_)
  refine lv_aload_n hx hb dX6_balloon_11 rfl (lv_at hl 0 rfl) ?_
  refine va_get (D := D) (ci := 6) (v := .ref (a 0)) (C := RX6) (T := TX6) (N := 7) hx hb hts hinX6 hown hK hP 0 rfl rfl 0 (by decide) (hts (.fieldLink RX6 12 "RibbonBalloons" "now" "LRibbonBalloons$State;") (by decide +kernel)) (fun _ h9 => h9) rfl dX6_balloon_12 ?_
  refine va_get (D := D) (ci := 4) (v := .ref (a 1)) (C := RX4) (T := TX4) (N := 12) hx hb hts hinX4 hown hK hP 1 rfl rfl 0 (by decide) (hts (.fieldLink RX6 62 "RibbonBalloons$State" "flock" "LRibbonBalloons$Flock;") (by decide +kernel)) (fun _ h9 => h9) rfl dX6_balloon_15 ?_
  refine lv_astore_n (lv' := [(3, .ref (a 1)), (0, .ref x0), (1, .int (nI b)), (2, .int 6)]) hx hb dX6_balloon_18 rfl hl (by decide) rfl (fun ls hl => ?_)
  refine lv_iload_n hx hb dX6_balloon_19 rfl (lv_at hl 3 rfl) ?_
  refine lv_tableIn (tgt := 120) hx hb dX6_balloon_20 (by decide) (by decide) rfl (by decide) ?_
  refine lv_aload_n hx hb dX6_balloon_120 rfl (lv_at hl 0 rfl) ?_
  refine lv_iload_n hx hb dX6_balloon_121 rfl (lv_at hl 2 rfl) ?_
  refine kcallV (As := [.int (nI b)]) (rest := []) (Wn := [rbC x0 (a 0) p0 q0 t0 k0 f0 w0, stO a (S 12 0) (S 12 1) (S 12 2) (S 12 3) (S 12 4) (S 12 5) (S 12 6) (S 12 7), flX cI cZ (a 1) (a 2) (a 3) (a 4) (a 5) (a 6) (a 7) (a 8) (S 0) (S 1) (S 2) (S 3) (S 4) (S 5) (S 6), ntX cI (a 9) (a 10) (a 11) (a 12) (S 7) (S 8) (S 9) (S 12 8), daX cI (a 13) (a 14) (S 10) (S 11)]) X (c_X0_heightByString l D cI cZ cS cJ (a 1) (a 2) (a 3) (a 4) (a 5) (a 6) (a 7) (a 8) S b (by omega)) (cwV 1 hts gX6_balloon_X0_heightByString rfl rfl rfl (by decide +kernel) ⟨Nat.le_of_ble_eq_true rfl, Nat.le_of_ble_eq_true rfl⟩) hK hP hD hS hA [2] rfl (by decide +kernel) rfl rfl rfl 2 0 rfl rfl rfl hl.1 rfl (Nat.le_of_ble_eq_true rfl) dX6_balloon_122 ⟨Nat.le_of_ble_eq_true rfl, Nat.le_of_ble_eq_true rfl⟩ (fun H locs hP hD hS => ?_)
  refine hend _ _ _ _ _ ?_ hP hD hS dX6_balloon_125
  exact rfl

set_option maxHeartbeats 4000000 in
set_option maxRecDepth 100000 in
theorem c_X6_balloon7 (l : Launch) (D : va_G) (cI cZ cS cJ : ClassId) (x0 : Nat) (p0 : Nat) (q0 : Nat) (t0 : Nat) (k0 : Nat) (f0 : Nat) (w0 : Int32) (a : Nat → Nat) (S : Nat → Nat → Int32) (b : Nat) (hb8 : b < 8) : C0 l yX6_balloon wsX6_balloon ({ frames := 3, cells := 0, slots := 0, locals := 67 }) D (tyL cI cZ cS cJ) [.ref x0, .int (nI b), .int 7] (List.flatten [rbC x0 (a 0) p0 q0 t0 k0 f0 w0, stO a (S 12 0) (S 12 1) (S 12 2) (S 12 3) (S 12 4) (S 12 5) (S 12 6) (S 12 7), flX cI cZ (a 1) (a 2) (a 3) (a 4) (a 5) (a 6) (a 7) (a 8) (S 0) (S 1) (S 2) (S 3) (S 4) (S 5) (S 6), ntX cI (a 9) (a 10) (a 11) (a 12) (S 7) (S 8) (S 9) (S 12 8), daX cI (a 13) (a 14) (S 10) (S 11)]) (some (.int (S 10 b))) (List.flatten [rbC x0 (a 0) p0 q0 t0 k0 f0 w0, stO a (S 12 0) (S 12 1) (S 12 2) (S 12 3) (S 12 4) (S 12 5) (S 12 6) (S 12 7), flX cI cZ (a 1) (a 2) (a 3) (a 4) (a 5) (a 6) (a 7) (a 8) (S 0) (S 1) (S 2) (S 3) (S 4) (S 5) (S 6), ntX cI (a 9) (a 10) (a 11) (a 12) (S 7) (S 8) (S 9) (S 12 8), daX cI (a 13) (a 14) (S 10) (S 11)]) 0 0 := by
  refine C0_int (cc := cX6_balloon) (maxL := 4) (rt := .int) (by decide) rfl (Nat.le_of_ble_eq_true rfl) (rfl) ?_
  intro p e s m below meth c A ls Q X hK hP hD hS hA hl hend
  have X : CallFix p m c cX6_balloon 4 s ([.ref x0, .int (nI b), .int 7] : List Value).toArray wsX6_balloon RX6 := X
  obtain ⟨hx, hb, hml, hown, hts⟩ := id X
  have hl : lv_has ls 4 [(0, .ref x0), (1, .int (nI b)), (2, .int 7)] := hl
  have hinX4 : ∀ w ∈ u_ws RX4 TX4 12, w ∈ wsX6_balloon := by decide +kernel
  have hinX6 : ∀ w ∈ u_ws RX6 TX6 7, w ∈ wsX6_balloon := by decide +kernel
  refine lv_iload_n hx hb dX6_balloon_0 rfl (lv_at hl 1 rfl) ?_
  refine kcallS (As := [.int (nI b)]) (rest := []) (Wn := [rbC x0 (a 0) p0 q0 t0 k0 f0 w0, stO a (S 12 0) (S 12 1) (S 12 2) (S 12 3) (S 12 4) (S 12 5) (S 12 6) (S 12 7), flX cI cZ (a 1) (a 2) (a 3) (a 4) (a 5) (a 6) (a 7) (a 8) (S 0) (S 1) (S 2) (S 3) (S 4) (S 5) (S 6), ntX cI (a 9) (a 10) (a 11) (a 12) (S 7) (S 8) (S 9) (S 12 8), daX cI (a 13) (a 14) (S 10) (S 11)]) X (c_X6_checkBalloon l D cI cZ cS cJ b (by omega)) (va_cwS 1 hts gX6_balloon_X6_checkBalloon rfl rfl rfl (by decide +kernel) ⟨Nat.le_of_ble_eq_true rfl, Nat.le_of_ble_eq_true rfl⟩) hK hP hD hS hA [] rfl (by decide +kernel) rfl rfl rfl rfl hl.1 rfl (Nat.le_of_ble_eq_true rfl) dX6_balloon_1 ⟨Nat.le_of_ble_eq_true rfl, Nat.le_of_ble_eq_true rfl⟩ (fun H locs hP hD hS => ?_)
  refine lv_iload_n hx hb dX6_balloon_4 rfl (lv_at hl 2 rfl) ?_
  refine lv_iconst (v := 0) hx hb dX6_balloon_5 (by decide) ?_
  refine lv_bipush (v := 11) hx hb dX6_balloon_6 (by decide) ?_
  refine kcallS (As := [.int 7, .int 0, .int 11]) (rest := []) (Wn := [rbC x0 (a 0) p0 q0 t0 k0 f0 w0, stO a (S 12 0) (S 12 1) (S 12 2) (S 12 3) (S 12 4) (S 12 5) (S 12 6) (S 12 7), flX cI cZ (a 1) (a 2) (a 3) (a 4) (a 5) (a 6) (a 7) (a 8) (S 0) (S 1) (S 2) (S 3) (S 4) (S 5) (S 6), ntX cI (a 9) (a 10) (a 11) (a 12) (S 7) (S 8) (S 9) (S 12 8), daX cI (a 13) (a 14) (S 10) (S 11)]) X (c_X6_checkRange l D cI cZ cS cJ 7 0 11 (by decide) (by decide)) (va_cwS 3 hts gX6_balloon_X6_checkRange rfl rfl rfl (by decide +kernel) ⟨Nat.le_of_ble_eq_true rfl, Nat.le_of_ble_eq_true rfl⟩) hK hP hD hS hA [] rfl (by decide +kernel) rfl rfl rfl rfl hl.1 rfl (Nat.le_of_ble_eq_true rfl) dX6_balloon_8 ⟨Nat.le_of_ble_eq_true rfl, Nat.le_of_ble_eq_true rfl⟩ (fun H locs hP hD hS => ?_)
  refine lv_aload_n hx hb dX6_balloon_11 rfl (lv_at hl 0 rfl) ?_
  refine va_get (D := D) (ci := 6) (v := .ref (a 0)) (C := RX6) (T := TX6) (N := 7) hx hb hts hinX6 hown hK hP 0 rfl rfl 0 (by decide) (hts (.fieldLink RX6 12 "RibbonBalloons" "now" "LRibbonBalloons$State;") (by decide +kernel)) (fun _ h9 => h9) rfl dX6_balloon_12 ?_
  refine va_get (D := D) (ci := 4) (v := .ref (a 1)) (C := RX4) (T := TX4) (N := 12) hx hb hts hinX4 hown hK hP 1 rfl rfl 0 (by decide) (hts (.fieldLink RX6 62 "RibbonBalloons$State" "flock" "LRibbonBalloons$Flock;") (by decide +kernel)) (fun _ h9 => h9) rfl dX6_balloon_15 ?_
  refine lv_astore_n (lv' := [(3, .ref (a 1)), (0, .ref x0), (1, .int (nI b)), (2, .int 7)]) hx hb dX6_balloon_18 rfl hl (by decide) rfl (fun ls hl => ?_)
  refine lv_iload_n hx hb dX6_balloon_19 rfl (lv_at hl 3 rfl) ?_
  refine lv_tableIn (tgt := 126) hx hb dX6_balloon_20 (by decide) (by decide) rfl (by decide) ?_
  refine lv_aload_n hx hb dX6_balloon_126 rfl (lv_at hl 1 rfl) ?_
  refine va_get (D := D) (ci := 6) (v := .ref (a 0)) (C := RX6) (T := TX6) (N := 7) hx hb hts hinX6 hown hK hP 0 rfl rfl 0 (by decide) (hts (.fieldLink RX6 12 "RibbonBalloons" "now" "LRibbonBalloons$State;") (by decide +kernel)) (fun _ h9 => h9) rfl dX6_balloon_127 ?_
  refine va_get (D := D) (ci := 4) (v := .ref (a 13)) (C := RX4) (T := TX4) (N := 12) hx hb hts hinX4 hown hK hP 1 rfl rfl 2 (by decide) (hts (.fieldLink RX6 99 "RibbonBalloons$State" "drifts" "[I") (by decide +kernel)) (fun _ h9 => h9) rfl dX6_balloon_130 ?_
  refine lv_iload_n hx hb dX6_balloon_133 rfl (lv_at hl 2 rfl) ?_
  refine r_iald hx hb hK hP 14 0 b (f := S 10) rfl rfl (by omega) (by omega) dX6_balloon_134 ?_
  refine hend _ _ _ _ _ ?_ hP hD hS dX6_balloon_135
  exact rfl

set_option maxHeartbeats 4000000 in
set_option maxRecDepth 100000 in
theorem c_X6_balloon8 (l : Launch) (D : va_G) (cI cZ cS cJ : ClassId) (x0 : Nat) (p0 : Nat) (q0 : Nat) (t0 : Nat) (k0 : Nat) (f0 : Nat) (w0 : Int32) (a : Nat → Nat) (S : Nat → Nat → Int32) (b : Nat) (hb8 : b < 8) : C0 l yX6_balloon wsX6_balloon ({ frames := 3, cells := 0, slots := 0, locals := 67 }) D (tyL cI cZ cS cJ) [.ref x0, .int (nI b), .int 8] (List.flatten [rbC x0 (a 0) p0 q0 t0 k0 f0 w0, stO a (S 12 0) (S 12 1) (S 12 2) (S 12 3) (S 12 4) (S 12 5) (S 12 6) (S 12 7), flX cI cZ (a 1) (a 2) (a 3) (a 4) (a 5) (a 6) (a 7) (a 8) (S 0) (S 1) (S 2) (S 3) (S 4) (S 5) (S 6), ntX cI (a 9) (a 10) (a 11) (a 12) (S 7) (S 8) (S 9) (S 12 8), daX cI (a 13) (a 14) (S 10) (S 11)]) (some (.int ((S 12 0) - (S 11 b)))) (List.flatten [rbC x0 (a 0) p0 q0 t0 k0 f0 w0, stO a (S 12 0) (S 12 1) (S 12 2) (S 12 3) (S 12 4) (S 12 5) (S 12 6) (S 12 7), flX cI cZ (a 1) (a 2) (a 3) (a 4) (a 5) (a 6) (a 7) (a 8) (S 0) (S 1) (S 2) (S 3) (S 4) (S 5) (S 6), ntX cI (a 9) (a 10) (a 11) (a 12) (S 7) (S 8) (S 9) (S 12 8), daX cI (a 13) (a 14) (S 10) (S 11)]) 0 0 := by
  refine C0_int (cc := cX6_balloon) (maxL := 4) (rt := .int) (by decide) rfl (Nat.le_of_ble_eq_true rfl) (rfl) ?_
  intro p e s m below meth c A ls Q X hK hP hD hS hA hl hend
  have X : CallFix p m c cX6_balloon 4 s ([.ref x0, .int (nI b), .int 8] : List Value).toArray wsX6_balloon RX6 := X
  obtain ⟨hx, hb, hml, hown, hts⟩ := id X
  have hl : lv_has ls 4 [(0, .ref x0), (1, .int (nI b)), (2, .int 8)] := hl
  have hinX4 : ∀ w ∈ u_ws RX4 TX4 12, w ∈ wsX6_balloon := by decide +kernel
  have hinX6 : ∀ w ∈ u_ws RX6 TX6 7, w ∈ wsX6_balloon := by decide +kernel
  refine lv_iload_n hx hb dX6_balloon_0 rfl (lv_at hl 1 rfl) ?_
  refine kcallS (As := [.int (nI b)]) (rest := []) (Wn := [rbC x0 (a 0) p0 q0 t0 k0 f0 w0, stO a (S 12 0) (S 12 1) (S 12 2) (S 12 3) (S 12 4) (S 12 5) (S 12 6) (S 12 7), flX cI cZ (a 1) (a 2) (a 3) (a 4) (a 5) (a 6) (a 7) (a 8) (S 0) (S 1) (S 2) (S 3) (S 4) (S 5) (S 6), ntX cI (a 9) (a 10) (a 11) (a 12) (S 7) (S 8) (S 9) (S 12 8), daX cI (a 13) (a 14) (S 10) (S 11)]) X (c_X6_checkBalloon l D cI cZ cS cJ b (by omega)) (va_cwS 1 hts gX6_balloon_X6_checkBalloon rfl rfl rfl (by decide +kernel) ⟨Nat.le_of_ble_eq_true rfl, Nat.le_of_ble_eq_true rfl⟩) hK hP hD hS hA [] rfl (by decide +kernel) rfl rfl rfl rfl hl.1 rfl (Nat.le_of_ble_eq_true rfl) dX6_balloon_1 ⟨Nat.le_of_ble_eq_true rfl, Nat.le_of_ble_eq_true rfl⟩ (fun H locs hP hD hS => ?_)
  refine lv_iload_n hx hb dX6_balloon_4 rfl (lv_at hl 2 rfl) ?_
  refine lv_iconst (v := 0) hx hb dX6_balloon_5 (by decide) ?_
  refine lv_bipush (v := 11) hx hb dX6_balloon_6 (by decide) ?_
  refine kcallS (As := [.int 8, .int 0, .int 11]) (rest := []) (Wn := [rbC x0 (a 0) p0 q0 t0 k0 f0 w0, stO a (S 12 0) (S 12 1) (S 12 2) (S 12 3) (S 12 4) (S 12 5) (S 12 6) (S 12 7), flX cI cZ (a 1) (a 2) (a 3) (a 4) (a 5) (a 6) (a 7) (a 8) (S 0) (S 1) (S 2) (S 3) (S 4) (S 5) (S 6), ntX cI (a 9) (a 10) (a 11) (a 12) (S 7) (S 8) (S 9) (S 12 8), daX cI (a 13) (a 14) (S 10) (S 11)]) X (c_X6_checkRange l D cI cZ cS cJ 8 0 11 (by decide) (by decide)) (va_cwS 3 hts gX6_balloon_X6_checkRange rfl rfl rfl (by decide +kernel) ⟨Nat.le_of_ble_eq_true rfl, Nat.le_of_ble_eq_true rfl⟩) hK hP hD hS hA [] rfl (by decide +kernel) rfl rfl rfl rfl hl.1 rfl (Nat.le_of_ble_eq_true rfl) dX6_balloon_8 ⟨Nat.le_of_ble_eq_true rfl, Nat.le_of_ble_eq_true rfl⟩ (fun H locs hP hD hS => ?_)
  refine lv_aload_n hx hb dX6_balloon_11 rfl (lv_at hl 0 rfl) ?_
  refine va_get (D := D) (ci := 6) (v := .ref (a 0)) (C := RX6) (T := TX6) (N := 7) hx hb hts hinX6 hown hK hP 0 rfl rfl 0 (by decide) (hts (.fieldLink RX6 12 "RibbonBalloons" "now" "LRibbonBalloons$State;") (by decide +kernel)) (fun _ h9 => h9) rfl dX6_balloon_12 ?_
  refine va_get (D := D) (ci := 4) (v := .ref (a 1)) (C := RX4) (T := TX4) (N := 12) hx hb hts hinX4 hown hK hP 1 rfl rfl 0 (by decide) (hts (.fieldLink RX6 62 "RibbonBalloons$State" "flock" "LRibbonBalloons$Flock;") (by decide +kernel)) (fun _ h9 => h9) rfl dX6_balloon_15 ?_
  refine lv_astore_n (lv' := [(3, .ref (a 1)), (0, .ref x0), (1, .int (nI b)), (2, .int 8)]) hx hb dX6_balloon_18 rfl hl (by decide) rfl (fun ls hl => ?_)
  refine lv_iload_n hx hb dX6_balloon_19 rfl (lv_at hl 3 rfl) ?_
  refine lv_tableIn (tgt := 136) hx hb dX6_balloon_20 (by decide) (by decide) rfl (by decide) ?_
  refine lv_aload_n hx hb dX6_balloon_136 rfl (lv_at hl 1 rfl) ?_
  refine va_get (D := D) (ci := 6) (v := .ref (a 0)) (C := RX6) (T := TX6) (N := 7) hx hb hts hinX6 hown hK hP 0 rfl rfl 0 (by decide) (hts (.fieldLink RX6 12 "RibbonBalloons" "now" "LRibbonBalloons$State;") (by decide +kernel)) (fun _ h9 => h9) rfl dX6_balloon_137 ?_
  refine va_get (D := D) (ci := 4) (v := .int (S 12 0)) (C := RX4) (T := TX4) (N := 12) hx hb hts hinX4 hown hK hP 1 rfl rfl 4 (by decide) (hts (.fieldLink RX6 105 "RibbonBalloons$State" "hours" "I") (by decide +kernel)) (fun _ h9 => h9) rfl dX6_balloon_140 ?_
  refine lv_aload_n hx hb dX6_balloon_143 rfl (lv_at hl 1 rfl) ?_
  refine va_get (D := D) (ci := 6) (v := .ref (a 0)) (C := RX6) (T := TX6) (N := 7) hx hb hts hinX6 hown hK hP 0 rfl rfl 0 (by decide) (hts (.fieldLink RX6 12 "RibbonBalloons" "now" "LRibbonBalloons$State;") (by decide +kernel)) (fun _ h9 => h9) rfl dX6_balloon_144 ?_
  refine va_get (D := D) (ci := 4) (v := .ref (a 14)) (C := RX4) (T := TX4) (N := 12) hx hb hts hinX4 hown hK hP 1 rfl rfl 3 (by decide) (hts (.fieldLink RX6 102 "RibbonBalloons$State" "tunedAt" "[I") (by decide +kernel)) (fun _ h9 => h9) rfl dX6_balloon_147 ?_
  refine lv_iload_n hx hb dX6_balloon_150 rfl (lv_at hl 2 rfl) ?_
  refine r_iald hx hb hK hP 15 0 b (f := S 11) rfl rfl (by omega) (by omega) dX6_balloon_151 ?_
  refine lv_isub hx hb dX6_balloon_152 ?_
  refine hend _ _ _ _ _ ?_ hP hD hS dX6_balloon_153
  exact rfl

set_option maxHeartbeats 4000000 in
set_option maxRecDepth 100000 in
theorem c_X6_balloon9 (l : Launch) (D : va_G) (cI cZ cS cJ : ClassId) (x0 : Nat) (p0 : Nat) (q0 : Nat) (t0 : Nat) (k0 : Nat) (f0 : Nat) (w0 : Int32) (a : Nat → Nat) (S : Nat → Nat → Int32) (b : Nat) (hb8 : b < 8) : C0 l yX6_balloon wsX6_balloon ({ frames := 3, cells := 0, slots := 0, locals := 67 }) D (tyL cI cZ cS cJ) [.ref x0, .int (nI b), .int 9] (List.flatten [rbC x0 (a 0) p0 q0 t0 k0 f0 w0, stO a (S 12 0) (S 12 1) (S 12 2) (S 12 3) (S 12 4) (S 12 5) (S 12 6) (S 12 7), flX cI cZ (a 1) (a 2) (a 3) (a 4) (a 5) (a 6) (a 7) (a 8) (S 0) (S 1) (S 2) (S 3) (S 4) (S 5) (S 6), ntX cI (a 9) (a 10) (a 11) (a 12) (S 7) (S 8) (S 9) (S 12 8), daX cI (a 13) (a 14) (S 10) (S 11)]) (some (.int (tel S b))) (List.flatten [rbC x0 (a 0) p0 q0 t0 k0 f0 w0, stO a (S 12 0) (S 12 1) (S 12 2) (S 12 3) (S 12 4) (S 12 5) (S 12 6) (S 12 7), flX cI cZ (a 1) (a 2) (a 3) (a 4) (a 5) (a 6) (a 7) (a 8) (S 0) (S 1) (S 2) (S 3) (S 4) (S 5) (S 6), ntX cI (a 9) (a 10) (a 11) (a 12) (S 7) (S 8) (S 9) (S 12 8), daX cI (a 13) (a 14) (S 10) (S 11)]) 0 0 := by
  refine C0_int (cc := cX6_balloon) (maxL := 4) (rt := .int) (by decide) rfl (Nat.le_of_ble_eq_true rfl) (rfl) ?_
  intro p e s m below meth c A ls Q X hK hP hD hS hA hl hend
  have X : CallFix p m c cX6_balloon 4 s ([.ref x0, .int (nI b), .int 9] : List Value).toArray wsX6_balloon RX6 := X
  obtain ⟨hx, hb, hml, hown, hts⟩ := id X
  have hl : lv_has ls 4 [(0, .ref x0), (1, .int (nI b)), (2, .int 9)] := hl
  have hinX4 : ∀ w ∈ u_ws RX4 TX4 12, w ∈ wsX6_balloon := by decide +kernel
  have hinX6 : ∀ w ∈ u_ws RX6 TX6 7, w ∈ wsX6_balloon := by decide +kernel
  refine lv_iload_n hx hb dX6_balloon_0 rfl (lv_at hl 1 rfl) ?_
  refine kcallS (As := [.int (nI b)]) (rest := []) (Wn := [rbC x0 (a 0) p0 q0 t0 k0 f0 w0, stO a (S 12 0) (S 12 1) (S 12 2) (S 12 3) (S 12 4) (S 12 5) (S 12 6) (S 12 7), flX cI cZ (a 1) (a 2) (a 3) (a 4) (a 5) (a 6) (a 7) (a 8) (S 0) (S 1) (S 2) (S 3) (S 4) (S 5) (S 6), ntX cI (a 9) (a 10) (a 11) (a 12) (S 7) (S 8) (S 9) (S 12 8), daX cI (a 13) (a 14) (S 10) (S 11)]) X (c_X6_checkBalloon l D cI cZ cS cJ b (by omega)) (va_cwS 1 hts gX6_balloon_X6_checkBalloon rfl rfl rfl (by decide +kernel) ⟨Nat.le_of_ble_eq_true rfl, Nat.le_of_ble_eq_true rfl⟩) hK hP hD hS hA [] rfl (by decide +kernel) rfl rfl rfl rfl hl.1 rfl (Nat.le_of_ble_eq_true rfl) dX6_balloon_1 ⟨Nat.le_of_ble_eq_true rfl, Nat.le_of_ble_eq_true rfl⟩ (fun H locs hP hD hS => ?_)
  refine lv_iload_n hx hb dX6_balloon_4 rfl (lv_at hl 2 rfl) ?_
  refine lv_iconst (v := 0) hx hb dX6_balloon_5 (by decide) ?_
  refine lv_bipush (v := 11) hx hb dX6_balloon_6 (by decide) ?_
  refine kcallS (As := [.int 9, .int 0, .int 11]) (rest := []) (Wn := [rbC x0 (a 0) p0 q0 t0 k0 f0 w0, stO a (S 12 0) (S 12 1) (S 12 2) (S 12 3) (S 12 4) (S 12 5) (S 12 6) (S 12 7), flX cI cZ (a 1) (a 2) (a 3) (a 4) (a 5) (a 6) (a 7) (a 8) (S 0) (S 1) (S 2) (S 3) (S 4) (S 5) (S 6), ntX cI (a 9) (a 10) (a 11) (a 12) (S 7) (S 8) (S 9) (S 12 8), daX cI (a 13) (a 14) (S 10) (S 11)]) X (c_X6_checkRange l D cI cZ cS cJ 9 0 11 (by decide) (by decide)) (va_cwS 3 hts gX6_balloon_X6_checkRange rfl rfl rfl (by decide +kernel) ⟨Nat.le_of_ble_eq_true rfl, Nat.le_of_ble_eq_true rfl⟩) hK hP hD hS hA [] rfl (by decide +kernel) rfl rfl rfl rfl hl.1 rfl (Nat.le_of_ble_eq_true rfl) dX6_balloon_8 ⟨Nat.le_of_ble_eq_true rfl, Nat.le_of_ble_eq_true rfl⟩ (fun H locs hP hD hS => ?_)
  refine lv_aload_n hx hb dX6_balloon_11 rfl (lv_at hl 0 rfl) ?_
  refine va_get (D := D) (ci := 6) (v := .ref (a 0)) (C := RX6) (T := TX6) (N := 7) hx hb hts hinX6 hown hK hP 0 rfl rfl 0 (by decide) (hts (.fieldLink RX6 12 "RibbonBalloons" "now" "LRibbonBalloons$State;") (by decide +kernel)) (fun _ h9 => h9) rfl dX6_balloon_12 ?_
  refine va_get (D := D) (ci := 4) (v := .ref (a 1)) (C := RX4) (T := TX4) (N := 12) hx hb hts hinX4 hown hK hP 1 rfl rfl 0 (by decide) (hts (.fieldLink RX6 62 "RibbonBalloons$State" "flock" "LRibbonBalloons$Flock;") (by decide +kernel)) (fun _ h9 => h9) rfl dX6_balloon_15 ?_
  refine lv_astore_n (lv' := [(3, .ref (a 1)), (0, .ref x0), (1, .int (nI b)), (2, .int 9)]) hx hb dX6_balloon_18 rfl hl (by decide) rfl (fun ls hl => ?_)
  refine lv_iload_n hx hb dX6_balloon_19 rfl (lv_at hl 3 rfl) ?_
  refine lv_tableIn (tgt := 154) hx hb dX6_balloon_20 (by decide) (by decide) rfl (by decide) ?_
  refine lv_aload_n hx hb dX6_balloon_154 rfl (lv_at hl 1 rfl) ?_
  refine va_get (D := D) (ci := 6) (v := .ref (a 0)) (C := RX6) (T := TX6) (N := 7) hx hb hts hinX6 hown hK hP 0 rfl rfl 0 (by decide) (hts (.fieldLink RX6 12 "RibbonBalloons" "now" "LRibbonBalloons$State;") (by decide +kernel)) (fun _ h9 => h9) rfl dX6_balloon_155 ?_
  refine lv_iload_n hx hb dX6_balloon_158 rfl (lv_at hl 2 rfl) ?_
  refine kcallV (As := [.int (nI b)]) (rest := []) (Wn := [rbC x0 (a 0) p0 q0 t0 k0 f0 w0, stO a (S 12 0) (S 12 1) (S 12 2) (S 12 3) (S 12 4) (S 12 5) (S 12 6) (S 12 7), flX cI cZ (a 1) (a 2) (a 3) (a 4) (a 5) (a 6) (a 7) (a 8) (S 0) (S 1) (S 2) (S 3) (S 4) (S 5) (S 6), ntX cI (a 9) (a 10) (a 11) (a 12) (S 7) (S 8) (S 9) (S 12 8), daX cI (a 13) (a 14) (S 10) (S 11)]) X (c_X4_tells l D cI cZ cS cJ a S b (by omega)) (cwV 1 hts gX6_balloon_X4_tells rfl rfl rfl (by decide +kernel) ⟨Nat.le_of_ble_eq_true rfl, Nat.le_of_ble_eq_true rfl⟩) hK hP hD hS hA [1, 2, 3, 4] rfl (by decide +kernel) rfl rfl rfl 1 4 rfl rfl rfl hl.1 rfl (Nat.le_of_ble_eq_true rfl) dX6_balloon_159 ⟨Nat.le_of_ble_eq_true rfl, Nat.le_of_ble_eq_true rfl⟩ (fun H locs hP hD hS => ?_)
  refine hend _ _ _ _ _ ?_ hP hD hS dX6_balloon_162
  exact rfl

set_option maxHeartbeats 4000000 in
set_option maxRecDepth 100000 in
theorem c_X6_balloon10 (l : Launch) (D : va_G) (cI cZ cS cJ : ClassId) (x0 : Nat) (p0 : Nat) (q0 : Nat) (t0 : Nat) (k0 : Nat) (f0 : Nat) (w0 : Int32) (a : Nat → Nat) (S : Nat → Nat → Int32) (b : Nat) (hb8 : b < 8) : C0 l yX6_balloon wsX6_balloon ({ frames := 3, cells := 0, slots := 0, locals := 67 }) D (tyL cI cZ cS cJ) [.ref x0, .int (nI b), .int 10] (List.flatten [rbC x0 (a 0) p0 q0 t0 k0 f0 w0, stO a (S 12 0) (S 12 1) (S 12 2) (S 12 3) (S 12 4) (S 12 5) (S 12 6) (S 12 7), flX cI cZ (a 1) (a 2) (a 3) (a 4) (a 5) (a 6) (a 7) (a 8) (S 0) (S 1) (S 2) (S 3) (S 4) (S 5) (S 6), ntX cI (a 9) (a 10) (a 11) (a 12) (S 7) (S 8) (S 9) (S 12 8), daX cI (a 13) (a 14) (S 10) (S 11)]) (some (.int (nI (ss S b)))) (List.flatten [rbC x0 (a 0) p0 q0 t0 k0 f0 w0, stO a (S 12 0) (S 12 1) (S 12 2) (S 12 3) (S 12 4) (S 12 5) (S 12 6) (S 12 7), flX cI cZ (a 1) (a 2) (a 3) (a 4) (a 5) (a 6) (a 7) (a 8) (S 0) (S 1) (S 2) (S 3) (S 4) (S 5) (S 6), ntX cI (a 9) (a 10) (a 11) (a 12) (S 7) (S 8) (S 9) (S 12 8), daX cI (a 13) (a 14) (S 10) (S 11)]) 0 0 := by
  refine C0_int (cc := cX6_balloon) (maxL := 4) (rt := .int) (by decide) rfl (Nat.le_of_ble_eq_true rfl) (rfl) ?_
  intro p e s m below meth c A ls Q X hK hP hD hS hA hl hend
  have X : CallFix p m c cX6_balloon 4 s ([.ref x0, .int (nI b), .int 10] : List Value).toArray wsX6_balloon RX6 := X
  obtain ⟨hx, hb, hml, hown, hts⟩ := id X
  have hl : lv_has ls 4 [(0, .ref x0), (1, .int (nI b)), (2, .int 10)] := hl
  have hinX4 : ∀ w ∈ u_ws RX4 TX4 12, w ∈ wsX6_balloon := by decide +kernel
  have hinX6 : ∀ w ∈ u_ws RX6 TX6 7, w ∈ wsX6_balloon := by decide +kernel
  refine lv_iload_n hx hb dX6_balloon_0 rfl (lv_at hl 1 rfl) ?_
  refine kcallS (As := [.int (nI b)]) (rest := []) (Wn := [rbC x0 (a 0) p0 q0 t0 k0 f0 w0, stO a (S 12 0) (S 12 1) (S 12 2) (S 12 3) (S 12 4) (S 12 5) (S 12 6) (S 12 7), flX cI cZ (a 1) (a 2) (a 3) (a 4) (a 5) (a 6) (a 7) (a 8) (S 0) (S 1) (S 2) (S 3) (S 4) (S 5) (S 6), ntX cI (a 9) (a 10) (a 11) (a 12) (S 7) (S 8) (S 9) (S 12 8), daX cI (a 13) (a 14) (S 10) (S 11)]) X (c_X6_checkBalloon l D cI cZ cS cJ b (by omega)) (va_cwS 1 hts gX6_balloon_X6_checkBalloon rfl rfl rfl (by decide +kernel) ⟨Nat.le_of_ble_eq_true rfl, Nat.le_of_ble_eq_true rfl⟩) hK hP hD hS hA [] rfl (by decide +kernel) rfl rfl rfl rfl hl.1 rfl (Nat.le_of_ble_eq_true rfl) dX6_balloon_1 ⟨Nat.le_of_ble_eq_true rfl, Nat.le_of_ble_eq_true rfl⟩ (fun H locs hP hD hS => ?_)
  refine lv_iload_n hx hb dX6_balloon_4 rfl (lv_at hl 2 rfl) ?_
  refine lv_iconst (v := 0) hx hb dX6_balloon_5 (by decide) ?_
  refine lv_bipush (v := 11) hx hb dX6_balloon_6 (by decide) ?_
  refine kcallS (As := [.int 10, .int 0, .int 11]) (rest := []) (Wn := [rbC x0 (a 0) p0 q0 t0 k0 f0 w0, stO a (S 12 0) (S 12 1) (S 12 2) (S 12 3) (S 12 4) (S 12 5) (S 12 6) (S 12 7), flX cI cZ (a 1) (a 2) (a 3) (a 4) (a 5) (a 6) (a 7) (a 8) (S 0) (S 1) (S 2) (S 3) (S 4) (S 5) (S 6), ntX cI (a 9) (a 10) (a 11) (a 12) (S 7) (S 8) (S 9) (S 12 8), daX cI (a 13) (a 14) (S 10) (S 11)]) X (c_X6_checkRange l D cI cZ cS cJ 10 0 11 (by decide) (by decide)) (va_cwS 3 hts gX6_balloon_X6_checkRange rfl rfl rfl (by decide +kernel) ⟨Nat.le_of_ble_eq_true rfl, Nat.le_of_ble_eq_true rfl⟩) hK hP hD hS hA [] rfl (by decide +kernel) rfl rfl rfl rfl hl.1 rfl (Nat.le_of_ble_eq_true rfl) dX6_balloon_8 ⟨Nat.le_of_ble_eq_true rfl, Nat.le_of_ble_eq_true rfl⟩ (fun H locs hP hD hS => ?_)
  refine lv_aload_n hx hb dX6_balloon_11 rfl (lv_at hl 0 rfl) ?_
  refine va_get (D := D) (ci := 6) (v := .ref (a 0)) (C := RX6) (T := TX6) (N := 7) hx hb hts hinX6 hown hK hP 0 rfl rfl 0 (by decide) (hts (.fieldLink RX6 12 "RibbonBalloons" "now" "LRibbonBalloons$State;") (by decide +kernel)) (fun _ h9 => h9) rfl dX6_balloon_12 ?_
  refine va_get (D := D) (ci := 4) (v := .ref (a 1)) (C := RX4) (T := TX4) (N := 12) hx hb hts hinX4 hown hK hP 1 rfl rfl 0 (by decide) (hts (.fieldLink RX6 62 "RibbonBalloons$State" "flock" "LRibbonBalloons$Flock;") (by decide +kernel)) (fun _ h9 => h9) rfl dX6_balloon_15 ?_
  refine lv_astore_n (lv' := [(3, .ref (a 1)), (0, .ref x0), (1, .int (nI b)), (2, .int 10)]) hx hb dX6_balloon_18 rfl hl (by decide) rfl (fun ls hl => ?_)
  refine lv_iload_n hx hb dX6_balloon_19 rfl (lv_at hl 3 rfl) ?_
  refine lv_tableIn (tgt := 163) hx hb dX6_balloon_20 (by decide) (by decide) rfl (by decide) ?_
  refine lv_aload_n hx hb dX6_balloon_163 rfl (lv_at hl 0 rfl) ?_
  refine lv_iload_n hx hb dX6_balloon_164 rfl (lv_at hl 2 rfl) ?_
  refine kcallV (As := [.int (nI b)]) (rest := []) (Wn := [rbC x0 (a 0) p0 q0 t0 k0 f0 w0, stO a (S 12 0) (S 12 1) (S 12 2) (S 12 3) (S 12 4) (S 12 5) (S 12 6) (S 12 7), flX cI cZ (a 1) (a 2) (a 3) (a 4) (a 5) (a 6) (a 7) (a 8) (S 0) (S 1) (S 2) (S 3) (S 4) (S 5) (S 6), ntX cI (a 9) (a 10) (a 11) (a 12) (S 7) (S 8) (S 9) (S 12 8), daX cI (a 13) (a 14) (S 10) (S 11)]) X (c_X0_stringStart l D cI cZ cS cJ (a 1) (a 2) (a 3) (a 4) (a 5) (a 6) (a 7) (a 8) S b (by omega)) (cwV 1 hts gX6_balloon_X0_stringStart rfl rfl rfl (by decide +kernel) ⟨Nat.le_of_ble_eq_true rfl, Nat.le_of_ble_eq_true rfl⟩) hK hP hD hS hA [2] rfl (by decide +kernel) rfl rfl rfl 2 0 rfl rfl rfl hl.1 rfl (Nat.le_of_ble_eq_true rfl) dX6_balloon_165 ⟨Nat.le_of_ble_eq_true rfl, Nat.le_of_ble_eq_true rfl⟩ (fun H locs hP hD hS => ?_)
  refine hend _ _ _ _ _ ?_ hP hD hS dX6_balloon_168
  exact rfl

set_option maxHeartbeats 4000000 in
set_option maxRecDepth 100000 in
theorem c_X6_balloon11 (l : Launch) (D : va_G) (cI cZ cS cJ : ClassId) (x0 : Nat) (p0 : Nat) (q0 : Nat) (t0 : Nat) (k0 : Nat) (f0 : Nat) (w0 : Int32) (a : Nat → Nat) (S : Nat → Nat → Int32) (b : Nat) (hb8 : b < 8) : C0 l yX6_balloon wsX6_balloon ({ frames := 3, cells := 0, slots := 0, locals := 67 }) D (tyL cI cZ cS cJ) [.ref x0, .int (nI b), .int 11] (List.flatten [rbC x0 (a 0) p0 q0 t0 k0 f0 w0, stO a (S 12 0) (S 12 1) (S 12 2) (S 12 3) (S 12 4) (S 12 5) (S 12 6) (S 12 7), flX cI cZ (a 1) (a 2) (a 3) (a 4) (a 5) (a 6) (a 7) (a 8) (S 0) (S 1) (S 2) (S 3) (S 4) (S 5) (S 6), ntX cI (a 9) (a 10) (a 11) (a 12) (S 7) (S 8) (S 9) (S 12 8), daX cI (a 13) (a 14) (S 10) (S 11)]) (some (.int (nI (se S (7 - b) b - ss S b + 1)))) (List.flatten [rbC x0 (a 0) p0 q0 t0 k0 f0 w0, stO a (S 12 0) (S 12 1) (S 12 2) (S 12 3) (S 12 4) (S 12 5) (S 12 6) (S 12 7), flX cI cZ (a 1) (a 2) (a 3) (a 4) (a 5) (a 6) (a 7) (a 8) (S 0) (S 1) (S 2) (S 3) (S 4) (S 5) (S 6), ntX cI (a 9) (a 10) (a 11) (a 12) (S 7) (S 8) (S 9) (S 12 8), daX cI (a 13) (a 14) (S 10) (S 11)]) 0 0 := by
  refine C0_int (cc := cX6_balloon) (maxL := 4) (rt := .int) (by decide) rfl (Nat.le_of_ble_eq_true rfl) (rfl) ?_
  intro p e s m below meth c A ls Q X hK hP hD hS hA hl hend
  have X : CallFix p m c cX6_balloon 4 s ([.ref x0, .int (nI b), .int 11] : List Value).toArray wsX6_balloon RX6 := X
  obtain ⟨hx, hb, hml, hown, hts⟩ := id X
  have hl : lv_has ls 4 [(0, .ref x0), (1, .int (nI b)), (2, .int 11)] := hl
  have hinX4 : ∀ w ∈ u_ws RX4 TX4 12, w ∈ wsX6_balloon := by decide +kernel
  have hinX6 : ∀ w ∈ u_ws RX6 TX6 7, w ∈ wsX6_balloon := by decide +kernel
  refine lv_iload_n hx hb dX6_balloon_0 rfl (lv_at hl 1 rfl) ?_
  refine kcallS (As := [.int (nI b)]) (rest := []) (Wn := [rbC x0 (a 0) p0 q0 t0 k0 f0 w0, stO a (S 12 0) (S 12 1) (S 12 2) (S 12 3) (S 12 4) (S 12 5) (S 12 6) (S 12 7), flX cI cZ (a 1) (a 2) (a 3) (a 4) (a 5) (a 6) (a 7) (a 8) (S 0) (S 1) (S 2) (S 3) (S 4) (S 5) (S 6), ntX cI (a 9) (a 10) (a 11) (a 12) (S 7) (S 8) (S 9) (S 12 8), daX cI (a 13) (a 14) (S 10) (S 11)]) X (c_X6_checkBalloon l D cI cZ cS cJ b (by omega)) (va_cwS 1 hts gX6_balloon_X6_checkBalloon rfl rfl rfl (by decide +kernel) ⟨Nat.le_of_ble_eq_true rfl, Nat.le_of_ble_eq_true rfl⟩) hK hP hD hS hA [] rfl (by decide +kernel) rfl rfl rfl rfl hl.1 rfl (Nat.le_of_ble_eq_true rfl) dX6_balloon_1 ⟨Nat.le_of_ble_eq_true rfl, Nat.le_of_ble_eq_true rfl⟩ (fun H locs hP hD hS => ?_)
  refine lv_iload_n hx hb dX6_balloon_4 rfl (lv_at hl 2 rfl) ?_
  refine lv_iconst (v := 0) hx hb dX6_balloon_5 (by decide) ?_
  refine lv_bipush (v := 11) hx hb dX6_balloon_6 (by decide) ?_
  refine kcallS (As := [.int 11, .int 0, .int 11]) (rest := []) (Wn := [rbC x0 (a 0) p0 q0 t0 k0 f0 w0, stO a (S 12 0) (S 12 1) (S 12 2) (S 12 3) (S 12 4) (S 12 5) (S 12 6) (S 12 7), flX cI cZ (a 1) (a 2) (a 3) (a 4) (a 5) (a 6) (a 7) (a 8) (S 0) (S 1) (S 2) (S 3) (S 4) (S 5) (S 6), ntX cI (a 9) (a 10) (a 11) (a 12) (S 7) (S 8) (S 9) (S 12 8), daX cI (a 13) (a 14) (S 10) (S 11)]) X (c_X6_checkRange l D cI cZ cS cJ 11 0 11 (by decide) (by decide)) (va_cwS 3 hts gX6_balloon_X6_checkRange rfl rfl rfl (by decide +kernel) ⟨Nat.le_of_ble_eq_true rfl, Nat.le_of_ble_eq_true rfl⟩) hK hP hD hS hA [] rfl (by decide +kernel) rfl rfl rfl rfl hl.1 rfl (Nat.le_of_ble_eq_true rfl) dX6_balloon_8 ⟨Nat.le_of_ble_eq_true rfl, Nat.le_of_ble_eq_true rfl⟩ (fun H locs hP hD hS => ?_)
  refine lv_aload_n hx hb dX6_balloon_11 rfl (lv_at hl 0 rfl) ?_
  refine va_get (D := D) (ci := 6) (v := .ref (a 0)) (C := RX6) (T := TX6) (N := 7) hx hb hts hinX6 hown hK hP 0 rfl rfl 0 (by decide) (hts (.fieldLink RX6 12 "RibbonBalloons" "now" "LRibbonBalloons$State;") (by decide +kernel)) (fun _ h9 => h9) rfl dX6_balloon_12 ?_
  refine va_get (D := D) (ci := 4) (v := .ref (a 1)) (C := RX4) (T := TX4) (N := 12) hx hb hts hinX4 hown hK hP 1 rfl rfl 0 (by decide) (hts (.fieldLink RX6 62 "RibbonBalloons$State" "flock" "LRibbonBalloons$Flock;") (by decide +kernel)) (fun _ h9 => h9) rfl dX6_balloon_15 ?_
  refine lv_astore_n (lv' := [(3, .ref (a 1)), (0, .ref x0), (1, .int (nI b)), (2, .int 11)]) hx hb dX6_balloon_18 rfl hl (by decide) rfl (fun ls hl => ?_)
  refine lv_iload_n hx hb dX6_balloon_19 rfl (lv_at hl 3 rfl) ?_
  refine lv_tableOut (tgt := 169) hx hb dX6_balloon_20 (by decide) (by decide) ?_
  refine lv_aload_n hx hb dX6_balloon_169 rfl (lv_at hl 0 rfl) ?_
  refine lv_iload_n hx hb dX6_balloon_170 rfl (lv_at hl 2 rfl) ?_
  refine kcallV (As := [.int (nI b)]) (rest := []) (Wn := [rbC x0 (a 0) p0 q0 t0 k0 f0 w0, stO a (S 12 0) (S 12 1) (S 12 2) (S 12 3) (S 12 4) (S 12 5) (S 12 6) (S 12 7), flX cI cZ (a 1) (a 2) (a 3) (a 4) (a 5) (a 6) (a 7) (a 8) (S 0) (S 1) (S 2) (S 3) (S 4) (S 5) (S 6), ntX cI (a 9) (a 10) (a 11) (a 12) (S 7) (S 8) (S 9) (S 12 8), daX cI (a 13) (a 14) (S 10) (S 11)]) X (c_X0_stringSize l D cI cZ cS cJ (a 1) (a 2) (a 3) (a 4) (a 5) (a 6) (a 7) (a 8) S b (by omega)) (cwV 1 hts gX6_balloon_X0_stringSize rfl rfl rfl (by decide +kernel) ⟨Nat.le_of_ble_eq_true rfl, Nat.le_of_ble_eq_true rfl⟩) hK hP hD hS hA [2] rfl (by decide +kernel) rfl rfl rfl 2 0 rfl rfl rfl hl.1 rfl (Nat.le_of_ble_eq_true rfl) dX6_balloon_171 ⟨Nat.le_of_ble_eq_true rfl, Nat.le_of_ble_eq_true rfl⟩ (fun H locs hP hD hS => ?_)
  refine hend _ _ _ _ _ ?_ hP hD hS dX6_balloon_174
  exact rfl

theorem c_X6_balloon (l : Launch) (D : va_G) (cI cZ cS cJ : ClassId) (x0 : Nat) (p0 : Nat) (q0 : Nat) (t0 : Nat) (k0 : Nat) (f0 : Nat) (w0 : Int32) (a : Nat → Nat) (S : Nat → Nat → Int32) (b : Nat) (w : Nat) (hb8 : b < 8) (hw : w < 12) : C0 l yX6_balloon wsX6_balloon ({ frames := 3, cells := 0, slots := 0, locals := 67 }) D (tyL cI cZ cS cJ) [.ref x0, .int (nI b), .int (nI w)] (List.flatten [rbC x0 (a 0) p0 q0 t0 k0 f0 w0, stO a (S 12 0) (S 12 1) (S 12 2) (S 12 3) (S 12 4) (S 12 5) (S 12 6) (S 12 7), flX cI cZ (a 1) (a 2) (a 3) (a 4) (a 5) (a 6) (a 7) (a 8) (S 0) (S 1) (S 2) (S 3) (S 4) (S 5) (S 6), ntX cI (a 9) (a 10) (a 11) (a 12) (S 7) (S 8) (S 9) (S 12 8), daX cI (a 13) (a 14) (S 10) (S 11)]) (some (.int (balS S b w))) (List.flatten [rbC x0 (a 0) p0 q0 t0 k0 f0 w0, stO a (S 12 0) (S 12 1) (S 12 2) (S 12 3) (S 12 4) (S 12 5) (S 12 6) (S 12 7), flX cI cZ (a 1) (a 2) (a 3) (a 4) (a 5) (a 6) (a 7) (a 8) (S 0) (S 1) (S 2) (S 3) (S 4) (S 5) (S 6), ntX cI (a 9) (a 10) (a 11) (a 12) (S 7) (S 8) (S 9) (S 12 8), daX cI (a 13) (a 14) (S 10) (S 11)]) 0 0 := by
  rcases (show w = 0 ∨ w = 1 ∨ w = 2 ∨ w = 3 ∨ w = 4 ∨ w = 5 ∨ w = 6 ∨ w = 7 ∨ w = 8 ∨ w = 9 ∨ w = 10 ∨ w = 11 by omega) with rfl | rfl | rfl | rfl | rfl | rfl | rfl | rfl | rfl | rfl | rfl | rfl
  · exact c_X6_balloon0 l D cI cZ cS cJ x0 p0 q0 t0 k0 f0 w0 a S b hb8
  · exact c_X6_balloon1 l D cI cZ cS cJ x0 p0 q0 t0 k0 f0 w0 a S b hb8
  · exact c_X6_balloon2 l D cI cZ cS cJ x0 p0 q0 t0 k0 f0 w0 a S b hb8
  · exact c_X6_balloon3 l D cI cZ cS cJ x0 p0 q0 t0 k0 f0 w0 a S b hb8
  · exact c_X6_balloon4 l D cI cZ cS cJ x0 p0 q0 t0 k0 f0 w0 a S b hb8
  · exact c_X6_balloon5 l D cI cZ cS cJ x0 p0 q0 t0 k0 f0 w0 a S b hb8
  · exact c_X6_balloon6 l D cI cZ cS cJ x0 p0 q0 t0 k0 f0 w0 a S b hb8
  · exact c_X6_balloon7 l D cI cZ cS cJ x0 p0 q0 t0 k0 f0 w0 a S b hb8
  · exact c_X6_balloon8 l D cI cZ cS cJ x0 p0 q0 t0 k0 f0 w0 a S b hb8
  · exact c_X6_balloon9 l D cI cZ cS cJ x0 p0 q0 t0 k0 f0 w0 a S b hb8
  · exact c_X6_balloon10 l D cI cZ cS cJ x0 p0 q0 t0 k0 f0 w0 a S b hb8
  · exact c_X6_balloon11 l D cI cZ cS cJ x0 p0 q0 t0 k0 f0 w0 a S b hb8

set_option maxHeartbeats 4000000 in
set_option maxRecDepth 100000 in
theorem c_X6_ribbon0 (l : Launch) (D : va_G) (cI cZ cS cJ : ClassId) (x0 : Nat) (p0 : Nat) (q0 : Nat) (t0 : Nat) (k0 : Nat) (f0 : Nat) (w0 : Int32) (a : Nat → Nat) (S : Nat → Nat → Int32) (r : Nat) (hr7 : r < 7) : C0 l yX6_ribbon wsX6_ribbon ({ frames := 5, cells := 0, slots := 0, locals := 108 }) D (tyL cI cZ cS cJ) [.ref x0, .int (nI r), .int 0] (List.flatten [rbC x0 (a 0) p0 q0 t0 k0 f0 w0, stO a (S 12 0) (S 12 1) (S 12 2) (S 12 3) (S 12 4) (S 12 5) (S 12 6) (S 12 7), flX cI cZ (a 1) (a 2) (a 3) (a 4) (a 5) (a 6) (a 7) (a 8) (S 0) (S 1) (S 2) (S 3) (S 4) (S 5) (S 6), ntX cI (a 9) (a 10) (a 11) (a 12) (S 7) (S 8) (S 9) (S 12 8), daX cI (a 13) (a 14) (S 10) (S 11)]) (some (.int (b1 (¬ S 3 r = 0)))) (List.flatten [rbC x0 (a 0) p0 q0 t0 k0 f0 w0, stO a (S 12 0) (S 12 1) (S 12 2) (S 12 3) (S 12 4) (S 12 5) (S 12 6) (S 12 7), flX cI cZ (a 1) (a 2) (a 3) (a 4) (a 5) (a 6) (a 7) (a 8) (S 0) (S 1) (S 2) (S 3) (S 4) (S 5) (S 6), ntX cI (a 9) (a 10) (a 11) (a 12) (S 7) (S 8) (S 9) (S 12 8), daX cI (a 13) (a 14) (S 10) (S 11)]) 0 0 := by
  refine C0_int (cc := cX6_ribbon) (maxL := 4) (rt := .int) (by decide) rfl (Nat.le_of_ble_eq_true rfl) (rfl) ?_
  intro p e s m below meth c A ls Q X hK hP hD hS hA hl hend
  have X : CallFix p m c cX6_ribbon 4 s ([.ref x0, .int (nI r), .int 0] : List Value).toArray wsX6_ribbon RX6 := X
  obtain ⟨hx, hb, hml, hown, hts⟩ := id X
  have hl : lv_has ls 4 [(0, .ref x0), (1, .int (nI r)), (2, .int 0)] := hl
  have hinX0 : ∀ w ∈ u_ws RX0 TX0 7, w ∈ wsX6_ribbon := by decide +kernel
  have hinX4 : ∀ w ∈ u_ws RX4 TX4 12, w ∈ wsX6_ribbon := by decide +kernel
  have hinX6 : ∀ w ∈ u_ws RX6 TX6 7, w ∈ wsX6_ribbon := by decide +kernel
  refine lv_iload_n hx hb dX6_ribbon_0 rfl (lv_at hl 1 rfl) ?_
  refine kcallS (As := [.int (nI r)]) (rest := []) (Wn := [rbC x0 (a 0) p0 q0 t0 k0 f0 w0, stO a (S 12 0) (S 12 1) (S 12 2) (S 12 3) (S 12 4) (S 12 5) (S 12 6) (S 12 7), flX cI cZ (a 1) (a 2) (a 3) (a 4) (a 5) (a 6) (a 7) (a 8) (S 0) (S 1) (S 2) (S 3) (S 4) (S 5) (S 6), ntX cI (a 9) (a 10) (a 11) (a 12) (S 7) (S 8) (S 9) (S 12 8), daX cI (a 13) (a 14) (S 10) (S 11)]) X (c_X6_checkRibbon l D cI cZ cS cJ r (by omega)) (va_cwS 1 hts gX6_ribbon_X6_checkRibbon rfl rfl rfl (by decide +kernel) ⟨Nat.le_of_ble_eq_true rfl, Nat.le_of_ble_eq_true rfl⟩) hK hP hD hS hA [] rfl (by decide +kernel) rfl rfl rfl rfl hl.1 rfl (Nat.le_of_ble_eq_true rfl) dX6_ribbon_1 ⟨Nat.le_of_ble_eq_true rfl, Nat.le_of_ble_eq_true rfl⟩ (fun H locs hP hD hS => ?_)
  refine lv_iload_n hx hb dX6_ribbon_4 rfl (lv_at hl 2 rfl) ?_
  refine lv_iconst (v := 0) hx hb dX6_ribbon_5 (by decide) ?_
  refine lv_iconst (v := 4) hx hb dX6_ribbon_6 (by decide) ?_
  refine kcallS (As := [.int 0, .int 0, .int 4]) (rest := []) (Wn := [rbC x0 (a 0) p0 q0 t0 k0 f0 w0, stO a (S 12 0) (S 12 1) (S 12 2) (S 12 3) (S 12 4) (S 12 5) (S 12 6) (S 12 7), flX cI cZ (a 1) (a 2) (a 3) (a 4) (a 5) (a 6) (a 7) (a 8) (S 0) (S 1) (S 2) (S 3) (S 4) (S 5) (S 6), ntX cI (a 9) (a 10) (a 11) (a 12) (S 7) (S 8) (S 9) (S 12 8), daX cI (a 13) (a 14) (S 10) (S 11)]) X (c_X6_checkRange l D cI cZ cS cJ 0 0 4 (by decide) (by decide)) (va_cwS 3 hts gX6_ribbon_X6_checkRange rfl rfl rfl (by decide +kernel) ⟨Nat.le_of_ble_eq_true rfl, Nat.le_of_ble_eq_true rfl⟩) hK hP hD hS hA [] rfl (by decide +kernel) rfl rfl rfl rfl hl.1 rfl (Nat.le_of_ble_eq_true rfl) dX6_ribbon_7 ⟨Nat.le_of_ble_eq_true rfl, Nat.le_of_ble_eq_true rfl⟩ (fun H locs hP hD hS => ?_)
  refine lv_aload_n hx hb dX6_ribbon_10 rfl (lv_at hl 0 rfl) ?_
  refine va_get (D := D) (ci := 6) (v := .ref (a 0)) (C := RX6) (T := TX6) (N := 7) hx hb hts hinX6 hown hK hP 0 rfl rfl 0 (by decide) (hts (.fieldLink RX6 12 "RibbonBalloons" "now" "LRibbonBalloons$State;") (by decide +kernel)) (fun _ h9 => h9) rfl dX6_ribbon_11 ?_
  refine va_get (D := D) (ci := 4) (v := .ref (a 1)) (C := RX4) (T := TX4) (N := 12) hx hb hts hinX4 hown hK hP 1 rfl rfl 0 (by decide) (hts (.fieldLink RX6 62 "RibbonBalloons$State" "flock" "LRibbonBalloons$Flock;") (by decide +kernel)) (fun _ h9 => h9) rfl dX6_ribbon_14 ?_
  refine lv_astore_n (lv' := [(3, .ref (a 1)), (0, .ref x0), (1, .int (nI r)), (2, .int 0)]) hx hb dX6_ribbon_17 rfl hl (by decide) rfl (fun ls hl => ?_)
  refine lv_iload_n hx hb dX6_ribbon_18 rfl (lv_at hl 3 rfl) ?_
  refine lv_tableIn (tgt := 48) hx hb dX6_ribbon_19 (by decide) (by decide) rfl (by decide) ?_
  refine lv_aload_n hx hb dX6_ribbon_48 rfl (lv_at hl 0 rfl) ?_
  refine va_get (D := D) (ci := 0) (v := .ref (a 5)) (C := RX0) (T := TX0) (N := 7) hx hb hts hinX0 hown hK hP 2 rfl rfl 3 (by decide) (hts (.fieldLink RX6 182 "RibbonBalloons$Flock" "tied" "[Z") (by decide +kernel)) (fun _ h9 => h9) rfl dX6_ribbon_49 ?_
  refine lv_iload_n hx hb dX6_ribbon_52 rfl (lv_at hl 2 rfl) ?_
  refine r_zald hx hb hK hP 6 1 r (f := S 3) rfl rfl (by omega) (by omega) dX6_ribbon_53 ?_
  refine lv_if_eq (tgt := 61) hx hb dX6_ribbon_54 (by decide) (fun c54 => ?_) (fun c54 => ?_)
  · skip
    refine lv_iconst (v := 0) hx hb dX6_ribbon_61 (by decide) ?_
    refine hend _ _ _ _ _ ?_ hP hD hS dX6_ribbon_62
    first | exact (if_pos c54).symm | exact (if_neg (not_not_intro c54)).symm
  · skip
    refine lv_iconst (v := 1) hx hb dX6_ribbon_57 (by decide) ?_
    refine lv_goto (tgt := 62) hx hb dX6_ribbon_58 (by decide) ?_
    refine hend _ _ _ _ _ ?_ hP hD hS dX6_ribbon_62
    first | exact (if_pos c54).symm | exact (if_neg (not_not_intro c54)).symm

set_option maxHeartbeats 4000000 in
set_option maxRecDepth 100000 in
theorem c_X6_ribbon1 (l : Launch) (D : va_G) (cI cZ cS cJ : ClassId) (x0 : Nat) (p0 : Nat) (q0 : Nat) (t0 : Nat) (k0 : Nat) (f0 : Nat) (w0 : Int32) (a : Nat → Nat) (S : Nat → Nat → Int32) (r : Nat) (hr7 : r < 7) : C0 l yX6_ribbon wsX6_ribbon ({ frames := 5, cells := 0, slots := 0, locals := 108 }) D (tyL cI cZ cS cJ) [.ref x0, .int (nI r), .int 1] (List.flatten [rbC x0 (a 0) p0 q0 t0 k0 f0 w0, stO a (S 12 0) (S 12 1) (S 12 2) (S 12 3) (S 12 4) (S 12 5) (S 12 6) (S 12 7), flX cI cZ (a 1) (a 2) (a 3) (a 4) (a 5) (a 6) (a 7) (a 8) (S 0) (S 1) (S 2) (S 3) (S 4) (S 5) (S 6), ntX cI (a 9) (a 10) (a 11) (a 12) (S 7) (S 8) (S 9) (S 12 8), daX cI (a 13) (a 14) (S 10) (S 11)]) (some (.int (S 4 r))) (List.flatten [rbC x0 (a 0) p0 q0 t0 k0 f0 w0, stO a (S 12 0) (S 12 1) (S 12 2) (S 12 3) (S 12 4) (S 12 5) (S 12 6) (S 12 7), flX cI cZ (a 1) (a 2) (a 3) (a 4) (a 5) (a 6) (a 7) (a 8) (S 0) (S 1) (S 2) (S 3) (S 4) (S 5) (S 6), ntX cI (a 9) (a 10) (a 11) (a 12) (S 7) (S 8) (S 9) (S 12 8), daX cI (a 13) (a 14) (S 10) (S 11)]) 0 0 := by
  refine C0_int (cc := cX6_ribbon) (maxL := 4) (rt := .int) (by decide) rfl (Nat.le_of_ble_eq_true rfl) (rfl) ?_
  intro p e s m below meth c A ls Q X hK hP hD hS hA hl hend
  have X : CallFix p m c cX6_ribbon 4 s ([.ref x0, .int (nI r), .int 1] : List Value).toArray wsX6_ribbon RX6 := X
  obtain ⟨hx, hb, hml, hown, hts⟩ := id X
  have hl : lv_has ls 4 [(0, .ref x0), (1, .int (nI r)), (2, .int 1)] := hl
  have hinX0 : ∀ w ∈ u_ws RX0 TX0 7, w ∈ wsX6_ribbon := by decide +kernel
  have hinX4 : ∀ w ∈ u_ws RX4 TX4 12, w ∈ wsX6_ribbon := by decide +kernel
  have hinX6 : ∀ w ∈ u_ws RX6 TX6 7, w ∈ wsX6_ribbon := by decide +kernel
  refine lv_iload_n hx hb dX6_ribbon_0 rfl (lv_at hl 1 rfl) ?_
  refine kcallS (As := [.int (nI r)]) (rest := []) (Wn := [rbC x0 (a 0) p0 q0 t0 k0 f0 w0, stO a (S 12 0) (S 12 1) (S 12 2) (S 12 3) (S 12 4) (S 12 5) (S 12 6) (S 12 7), flX cI cZ (a 1) (a 2) (a 3) (a 4) (a 5) (a 6) (a 7) (a 8) (S 0) (S 1) (S 2) (S 3) (S 4) (S 5) (S 6), ntX cI (a 9) (a 10) (a 11) (a 12) (S 7) (S 8) (S 9) (S 12 8), daX cI (a 13) (a 14) (S 10) (S 11)]) X (c_X6_checkRibbon l D cI cZ cS cJ r (by omega)) (va_cwS 1 hts gX6_ribbon_X6_checkRibbon rfl rfl rfl (by decide +kernel) ⟨Nat.le_of_ble_eq_true rfl, Nat.le_of_ble_eq_true rfl⟩) hK hP hD hS hA [] rfl (by decide +kernel) rfl rfl rfl rfl hl.1 rfl (Nat.le_of_ble_eq_true rfl) dX6_ribbon_1 ⟨Nat.le_of_ble_eq_true rfl, Nat.le_of_ble_eq_true rfl⟩ (fun H locs hP hD hS => ?_)
  refine lv_iload_n hx hb dX6_ribbon_4 rfl (lv_at hl 2 rfl) ?_
  refine lv_iconst (v := 0) hx hb dX6_ribbon_5 (by decide) ?_
  refine lv_iconst (v := 4) hx hb dX6_ribbon_6 (by decide) ?_
  refine kcallS (As := [.int 1, .int 0, .int 4]) (rest := []) (Wn := [rbC x0 (a 0) p0 q0 t0 k0 f0 w0, stO a (S 12 0) (S 12 1) (S 12 2) (S 12 3) (S 12 4) (S 12 5) (S 12 6) (S 12 7), flX cI cZ (a 1) (a 2) (a 3) (a 4) (a 5) (a 6) (a 7) (a 8) (S 0) (S 1) (S 2) (S 3) (S 4) (S 5) (S 6), ntX cI (a 9) (a 10) (a 11) (a 12) (S 7) (S 8) (S 9) (S 12 8), daX cI (a 13) (a 14) (S 10) (S 11)]) X (c_X6_checkRange l D cI cZ cS cJ 1 0 4 (by decide) (by decide)) (va_cwS 3 hts gX6_ribbon_X6_checkRange rfl rfl rfl (by decide +kernel) ⟨Nat.le_of_ble_eq_true rfl, Nat.le_of_ble_eq_true rfl⟩) hK hP hD hS hA [] rfl (by decide +kernel) rfl rfl rfl rfl hl.1 rfl (Nat.le_of_ble_eq_true rfl) dX6_ribbon_7 ⟨Nat.le_of_ble_eq_true rfl, Nat.le_of_ble_eq_true rfl⟩ (fun H locs hP hD hS => ?_)
  refine lv_aload_n hx hb dX6_ribbon_10 rfl (lv_at hl 0 rfl) ?_
  refine va_get (D := D) (ci := 6) (v := .ref (a 0)) (C := RX6) (T := TX6) (N := 7) hx hb hts hinX6 hown hK hP 0 rfl rfl 0 (by decide) (hts (.fieldLink RX6 12 "RibbonBalloons" "now" "LRibbonBalloons$State;") (by decide +kernel)) (fun _ h9 => h9) rfl dX6_ribbon_11 ?_
  refine va_get (D := D) (ci := 4) (v := .ref (a 1)) (C := RX4) (T := TX4) (N := 12) hx hb hts hinX4 hown hK hP 1 rfl rfl 0 (by decide) (hts (.fieldLink RX6 62 "RibbonBalloons$State" "flock" "LRibbonBalloons$Flock;") (by decide +kernel)) (fun _ h9 => h9) rfl dX6_ribbon_14 ?_
  refine lv_astore_n (lv' := [(3, .ref (a 1)), (0, .ref x0), (1, .int (nI r)), (2, .int 1)]) hx hb dX6_ribbon_17 rfl hl (by decide) rfl (fun ls hl => ?_)
  refine lv_iload_n hx hb dX6_ribbon_18 rfl (lv_at hl 3 rfl) ?_
  refine lv_tableIn (tgt := 63) hx hb dX6_ribbon_19 (by decide) (by decide) rfl (by decide) ?_
  refine lv_aload_n hx hb dX6_ribbon_63 rfl (lv_at hl 0 rfl) ?_
  refine va_get (D := D) (ci := 0) (v := .ref (a 6)) (C := RX0) (T := TX0) (N := 7) hx hb hts hinX0 hown hK hP 2 rfl rfl 4 (by decide) (hts (.fieldLink RX6 186 "RibbonBalloons$Flock" "lengths" "[I") (by decide +kernel)) (fun _ h9 => h9) rfl dX6_ribbon_64 ?_
  refine lv_iload_n hx hb dX6_ribbon_67 rfl (lv_at hl 2 rfl) ?_
  refine r_iald hx hb hK hP 7 0 r (f := S 4) rfl rfl (by omega) (by omega) dX6_ribbon_68 ?_
  refine hend _ _ _ _ _ ?_ hP hD hS dX6_ribbon_69
  exact rfl

set_option maxHeartbeats 4000000 in
set_option maxRecDepth 100000 in
theorem c_X6_ribbon2 (l : Launch) (D : va_G) (cI cZ cS cJ : ClassId) (x0 : Nat) (p0 : Nat) (q0 : Nat) (t0 : Nat) (k0 : Nat) (f0 : Nat) (w0 : Int32) (a : Nat → Nat) (S : Nat → Nat → Int32) (r : Nat) (hr7 : r < 7) : C0 l yX6_ribbon wsX6_ribbon ({ frames := 5, cells := 0, slots := 0, locals := 108 }) D (tyL cI cZ cS cJ) [.ref x0, .int (nI r), .int 2] (List.flatten [rbC x0 (a 0) p0 q0 t0 k0 f0 w0, stO a (S 12 0) (S 12 1) (S 12 2) (S 12 3) (S 12 4) (S 12 5) (S 12 6) (S 12 7), flX cI cZ (a 1) (a 2) (a 3) (a 4) (a 5) (a 6) (a 7) (a 8) (S 0) (S 1) (S 2) (S 3) (S 4) (S 5) (S 6), ntX cI (a 9) (a 10) (a 11) (a 12) (S 7) (S 8) (S 9) (S 12 8), daX cI (a 13) (a 14) (S 10) (S 11)]) (some (.int (S 5 r))) (List.flatten [rbC x0 (a 0) p0 q0 t0 k0 f0 w0, stO a (S 12 0) (S 12 1) (S 12 2) (S 12 3) (S 12 4) (S 12 5) (S 12 6) (S 12 7), flX cI cZ (a 1) (a 2) (a 3) (a 4) (a 5) (a 6) (a 7) (a 8) (S 0) (S 1) (S 2) (S 3) (S 4) (S 5) (S 6), ntX cI (a 9) (a 10) (a 11) (a 12) (S 7) (S 8) (S 9) (S 12 8), daX cI (a 13) (a 14) (S 10) (S 11)]) 0 0 := by
  refine C0_int (cc := cX6_ribbon) (maxL := 4) (rt := .int) (by decide) rfl (Nat.le_of_ble_eq_true rfl) (rfl) ?_
  intro p e s m below meth c A ls Q X hK hP hD hS hA hl hend
  have X : CallFix p m c cX6_ribbon 4 s ([.ref x0, .int (nI r), .int 2] : List Value).toArray wsX6_ribbon RX6 := X
  obtain ⟨hx, hb, hml, hown, hts⟩ := id X
  have hl : lv_has ls 4 [(0, .ref x0), (1, .int (nI r)), (2, .int 2)] := hl
  have hinX0 : ∀ w ∈ u_ws RX0 TX0 7, w ∈ wsX6_ribbon := by decide +kernel
  have hinX4 : ∀ w ∈ u_ws RX4 TX4 12, w ∈ wsX6_ribbon := by decide +kernel
  have hinX6 : ∀ w ∈ u_ws RX6 TX6 7, w ∈ wsX6_ribbon := by decide +kernel
  refine lv_iload_n hx hb dX6_ribbon_0 rfl (lv_at hl 1 rfl) ?_
  refine kcallS (As := [.int (nI r)]) (rest := []) (Wn := [rbC x0 (a 0) p0 q0 t0 k0 f0 w0, stO a (S 12 0) (S 12 1) (S 12 2) (S 12 3) (S 12 4) (S 12 5) (S 12 6) (S 12 7), flX cI cZ (a 1) (a 2) (a 3) (a 4) (a 5) (a 6) (a 7) (a 8) (S 0) (S 1) (S 2) (S 3) (S 4) (S 5) (S 6), ntX cI (a 9) (a 10) (a 11) (a 12) (S 7) (S 8) (S 9) (S 12 8), daX cI (a 13) (a 14) (S 10) (S 11)]) X (c_X6_checkRibbon l D cI cZ cS cJ r (by omega)) (va_cwS 1 hts gX6_ribbon_X6_checkRibbon rfl rfl rfl (by decide +kernel) ⟨Nat.le_of_ble_eq_true rfl, Nat.le_of_ble_eq_true rfl⟩) hK hP hD hS hA [] rfl (by decide +kernel) rfl rfl rfl rfl hl.1 rfl (Nat.le_of_ble_eq_true rfl) dX6_ribbon_1 ⟨Nat.le_of_ble_eq_true rfl, Nat.le_of_ble_eq_true rfl⟩ (fun H locs hP hD hS => ?_)
  refine lv_iload_n hx hb dX6_ribbon_4 rfl (lv_at hl 2 rfl) ?_
  refine lv_iconst (v := 0) hx hb dX6_ribbon_5 (by decide) ?_
  refine lv_iconst (v := 4) hx hb dX6_ribbon_6 (by decide) ?_
  refine kcallS (As := [.int 2, .int 0, .int 4]) (rest := []) (Wn := [rbC x0 (a 0) p0 q0 t0 k0 f0 w0, stO a (S 12 0) (S 12 1) (S 12 2) (S 12 3) (S 12 4) (S 12 5) (S 12 6) (S 12 7), flX cI cZ (a 1) (a 2) (a 3) (a 4) (a 5) (a 6) (a 7) (a 8) (S 0) (S 1) (S 2) (S 3) (S 4) (S 5) (S 6), ntX cI (a 9) (a 10) (a 11) (a 12) (S 7) (S 8) (S 9) (S 12 8), daX cI (a 13) (a 14) (S 10) (S 11)]) X (c_X6_checkRange l D cI cZ cS cJ 2 0 4 (by decide) (by decide)) (va_cwS 3 hts gX6_ribbon_X6_checkRange rfl rfl rfl (by decide +kernel) ⟨Nat.le_of_ble_eq_true rfl, Nat.le_of_ble_eq_true rfl⟩) hK hP hD hS hA [] rfl (by decide +kernel) rfl rfl rfl rfl hl.1 rfl (Nat.le_of_ble_eq_true rfl) dX6_ribbon_7 ⟨Nat.le_of_ble_eq_true rfl, Nat.le_of_ble_eq_true rfl⟩ (fun H locs hP hD hS => ?_)
  refine lv_aload_n hx hb dX6_ribbon_10 rfl (lv_at hl 0 rfl) ?_
  refine va_get (D := D) (ci := 6) (v := .ref (a 0)) (C := RX6) (T := TX6) (N := 7) hx hb hts hinX6 hown hK hP 0 rfl rfl 0 (by decide) (hts (.fieldLink RX6 12 "RibbonBalloons" "now" "LRibbonBalloons$State;") (by decide +kernel)) (fun _ h9 => h9) rfl dX6_ribbon_11 ?_
  refine va_get (D := D) (ci := 4) (v := .ref (a 1)) (C := RX4) (T := TX4) (N := 12) hx hb hts hinX4 hown hK hP 1 rfl rfl 0 (by decide) (hts (.fieldLink RX6 62 "RibbonBalloons$State" "flock" "LRibbonBalloons$Flock;") (by decide +kernel)) (fun _ h9 => h9) rfl dX6_ribbon_14 ?_
  refine lv_astore_n (lv' := [(3, .ref (a 1)), (0, .ref x0), (1, .int (nI r)), (2, .int 2)]) hx hb dX6_ribbon_17 rfl hl (by decide) rfl (fun ls hl => ?_)
  refine lv_iload_n hx hb dX6_ribbon_18 rfl (lv_at hl 3 rfl) ?_
  refine lv_tableIn (tgt := 70) hx hb dX6_ribbon_19 (by decide) (by decide) rfl (by decide) ?_
  refine lv_aload_n hx hb dX6_ribbon_70 rfl (lv_at hl 0 rfl) ?_
  refine va_get (D := D) (ci := 0) (v := .ref (a 7)) (C := RX0) (T := TX0) (N := 7) hx hb hts hinX0 hown hK hP 2 rfl rfl 5 (by decide) (hts (.fieldLink RX6 93 "RibbonBalloons$Flock" "bears" "[I") (by decide +kernel)) (fun _ h9 => h9) rfl dX6_ribbon_71 ?_
  refine lv_iload_n hx hb dX6_ribbon_74 rfl (lv_at hl 2 rfl) ?_
  refine r_iald hx hb hK hP 8 0 r (f := S 5) rfl rfl (by omega) (by omega) dX6_ribbon_75 ?_
  refine hend _ _ _ _ _ ?_ hP hD hS dX6_ribbon_76
  exact rfl

set_option maxHeartbeats 4000000 in
set_option maxRecDepth 100000 in
theorem c_X6_ribbon3 (l : Launch) (D : va_G) (cI cZ cS cJ : ClassId) (x0 : Nat) (p0 : Nat) (q0 : Nat) (t0 : Nat) (k0 : Nat) (f0 : Nat) (w0 : Int32) (a : Nat → Nat) (S : Nat → Nat → Int32) (r : Nat) (hr7 : r < 7) : C0 l yX6_ribbon wsX6_ribbon ({ frames := 5, cells := 0, slots := 0, locals := 108 }) D (tyL cI cZ cS cJ) [.ref x0, .int (nI r), .int 3] (List.flatten [rbC x0 (a 0) p0 q0 t0 k0 f0 w0, stO a (S 12 0) (S 12 1) (S 12 2) (S 12 3) (S 12 4) (S 12 5) (S 12 6) (S 12 7), flX cI cZ (a 1) (a 2) (a 3) (a 4) (a 5) (a 6) (a 7) (a 8) (S 0) (S 1) (S 2) (S 3) (S 4) (S 5) (S 6), ntX cI (a 9) (a 10) (a 11) (a 12) (S 7) (S 8) (S 9) (S 12 8), daX cI (a 13) (a 14) (S 10) (S 11)]) (some (.int (pulC S r))) (List.flatten [rbC x0 (a 0) p0 q0 t0 k0 f0 w0, stO a (S 12 0) (S 12 1) (S 12 2) (S 12 3) (S 12 4) (S 12 5) (S 12 6) (S 12 7), flX cI cZ (a 1) (a 2) (a 3) (a 4) (a 5) (a 6) (a 7) (a 8) (S 0) (S 1) (S 2) (S 3) (S 4) (S 5) (S 6), ntX cI (a 9) (a 10) (a 11) (a 12) (S 7) (S 8) (S 9) (S 12 8), daX cI (a 13) (a 14) (S 10) (S 11)]) 0 0 := by
  refine C0_int (cc := cX6_ribbon) (maxL := 4) (rt := .int) (by decide) rfl (Nat.le_of_ble_eq_true rfl) (rfl) ?_
  intro p e s m below meth c A ls Q X hK hP hD hS hA hl hend
  have X : CallFix p m c cX6_ribbon 4 s ([.ref x0, .int (nI r), .int 3] : List Value).toArray wsX6_ribbon RX6 := X
  obtain ⟨hx, hb, hml, hown, hts⟩ := id X
  have hl : lv_has ls 4 [(0, .ref x0), (1, .int (nI r)), (2, .int 3)] := hl
  have hinX4 : ∀ w ∈ u_ws RX4 TX4 12, w ∈ wsX6_ribbon := by decide +kernel
  have hinX6 : ∀ w ∈ u_ws RX6 TX6 7, w ∈ wsX6_ribbon := by decide +kernel
  refine lv_iload_n hx hb dX6_ribbon_0 rfl (lv_at hl 1 rfl) ?_
  refine kcallS (As := [.int (nI r)]) (rest := []) (Wn := [rbC x0 (a 0) p0 q0 t0 k0 f0 w0, stO a (S 12 0) (S 12 1) (S 12 2) (S 12 3) (S 12 4) (S 12 5) (S 12 6) (S 12 7), flX cI cZ (a 1) (a 2) (a 3) (a 4) (a 5) (a 6) (a 7) (a 8) (S 0) (S 1) (S 2) (S 3) (S 4) (S 5) (S 6), ntX cI (a 9) (a 10) (a 11) (a 12) (S 7) (S 8) (S 9) (S 12 8), daX cI (a 13) (a 14) (S 10) (S 11)]) X (c_X6_checkRibbon l D cI cZ cS cJ r (by omega)) (va_cwS 1 hts gX6_ribbon_X6_checkRibbon rfl rfl rfl (by decide +kernel) ⟨Nat.le_of_ble_eq_true rfl, Nat.le_of_ble_eq_true rfl⟩) hK hP hD hS hA [] rfl (by decide +kernel) rfl rfl rfl rfl hl.1 rfl (Nat.le_of_ble_eq_true rfl) dX6_ribbon_1 ⟨Nat.le_of_ble_eq_true rfl, Nat.le_of_ble_eq_true rfl⟩ (fun H locs hP hD hS => ?_)
  refine lv_iload_n hx hb dX6_ribbon_4 rfl (lv_at hl 2 rfl) ?_
  refine lv_iconst (v := 0) hx hb dX6_ribbon_5 (by decide) ?_
  refine lv_iconst (v := 4) hx hb dX6_ribbon_6 (by decide) ?_
  refine kcallS (As := [.int 3, .int 0, .int 4]) (rest := []) (Wn := [rbC x0 (a 0) p0 q0 t0 k0 f0 w0, stO a (S 12 0) (S 12 1) (S 12 2) (S 12 3) (S 12 4) (S 12 5) (S 12 6) (S 12 7), flX cI cZ (a 1) (a 2) (a 3) (a 4) (a 5) (a 6) (a 7) (a 8) (S 0) (S 1) (S 2) (S 3) (S 4) (S 5) (S 6), ntX cI (a 9) (a 10) (a 11) (a 12) (S 7) (S 8) (S 9) (S 12 8), daX cI (a 13) (a 14) (S 10) (S 11)]) X (c_X6_checkRange l D cI cZ cS cJ 3 0 4 (by decide) (by decide)) (va_cwS 3 hts gX6_ribbon_X6_checkRange rfl rfl rfl (by decide +kernel) ⟨Nat.le_of_ble_eq_true rfl, Nat.le_of_ble_eq_true rfl⟩) hK hP hD hS hA [] rfl (by decide +kernel) rfl rfl rfl rfl hl.1 rfl (Nat.le_of_ble_eq_true rfl) dX6_ribbon_7 ⟨Nat.le_of_ble_eq_true rfl, Nat.le_of_ble_eq_true rfl⟩ (fun H locs hP hD hS => ?_)
  refine lv_aload_n hx hb dX6_ribbon_10 rfl (lv_at hl 0 rfl) ?_
  refine va_get (D := D) (ci := 6) (v := .ref (a 0)) (C := RX6) (T := TX6) (N := 7) hx hb hts hinX6 hown hK hP 0 rfl rfl 0 (by decide) (hts (.fieldLink RX6 12 "RibbonBalloons" "now" "LRibbonBalloons$State;") (by decide +kernel)) (fun _ h9 => h9) rfl dX6_ribbon_11 ?_
  refine va_get (D := D) (ci := 4) (v := .ref (a 1)) (C := RX4) (T := TX4) (N := 12) hx hb hts hinX4 hown hK hP 1 rfl rfl 0 (by decide) (hts (.fieldLink RX6 62 "RibbonBalloons$State" "flock" "LRibbonBalloons$Flock;") (by decide +kernel)) (fun _ h9 => h9) rfl dX6_ribbon_14 ?_
  refine lv_astore_n (lv' := [(3, .ref (a 1)), (0, .ref x0), (1, .int (nI r)), (2, .int 3)]) hx hb dX6_ribbon_17 rfl hl (by decide) rfl (fun ls hl => ?_)
  refine lv_iload_n hx hb dX6_ribbon_18 rfl (lv_at hl 3 rfl) ?_
  refine lv_tableIn (tgt := 77) hx hb dX6_ribbon_19 (by decide) (by decide) rfl (by decide) ?_
  refine lv_aload_n hx hb dX6_ribbon_77 rfl (lv_at hl 0 rfl) ?_
  refine lv_iload_n hx hb dX6_ribbon_78 rfl (lv_at hl 2 rfl) ?_
  refine kcallV (As := [.int (nI r)]) (rest := []) (Wn := [rbC x0 (a 0) p0 q0 t0 k0 f0 w0, stO a (S 12 0) (S 12 1) (S 12 2) (S 12 3) (S 12 4) (S 12 5) (S 12 6) (S 12 7), flX cI cZ (a 1) (a 2) (a 3) (a 4) (a 5) (a 6) (a 7) (a 8) (S 0) (S 1) (S 2) (S 3) (S 4) (S 5) (S 6), ntX cI (a 9) (a 10) (a 11) (a 12) (S 7) (S 8) (S 9) (S 12 8), daX cI (a 13) (a 14) (S 10) (S 11)]) X (c_X0_pull l D cI cZ cS cJ (a 1) (a 2) (a 3) (a 4) (a 5) (a 6) (a 7) (a 8) S r (by omega)) (cwV 1 hts gX6_ribbon_X0_pull rfl rfl rfl (by decide +kernel) ⟨Nat.le_of_ble_eq_true rfl, Nat.le_of_ble_eq_true rfl⟩) hK hP hD hS hA [2] rfl (by decide +kernel) rfl rfl rfl 2 0 rfl rfl rfl hl.1 rfl (Nat.le_of_ble_eq_true rfl) dX6_ribbon_79 ⟨Nat.le_of_ble_eq_true rfl, Nat.le_of_ble_eq_true rfl⟩ (fun H locs hP hD hS => ?_)
  refine hend _ _ _ _ _ ?_ hP hD hS dX6_ribbon_82
  exact rfl

set_option maxHeartbeats 4000000 in
set_option maxRecDepth 100000 in
theorem c_X6_ribbon4 (l : Launch) (D : va_G) (cI cZ cS cJ : ClassId) (x0 : Nat) (p0 : Nat) (q0 : Nat) (t0 : Nat) (k0 : Nat) (f0 : Nat) (w0 : Int32) (a : Nat → Nat) (S : Nat → Nat → Int32) (r : Nat) (hr7 : r < 7) : C0 l yX6_ribbon wsX6_ribbon ({ frames := 5, cells := 0, slots := 0, locals := 108 }) D (tyL cI cZ cS cJ) [.ref x0, .int (nI r), .int 4] (List.flatten [rbC x0 (a 0) p0 q0 t0 k0 f0 w0, stO a (S 12 0) (S 12 1) (S 12 2) (S 12 3) (S 12 4) (S 12 5) (S 12 6) (S 12 7), flX cI cZ (a 1) (a 2) (a 3) (a 4) (a 5) (a 6) (a 7) (a 8) (S 0) (S 1) (S 2) (S 3) (S 4) (S 5) (S 6), ntX cI (a 9) (a 10) (a 11) (a 12) (S 7) (S 8) (S 9) (S 12 8), daX cI (a 13) (a 14) (S 10) (S 11)]) (some (.int (b1 ((S 5) r < pulC S r)))) (List.flatten [rbC x0 (a 0) p0 q0 t0 k0 f0 w0, stO a (S 12 0) (S 12 1) (S 12 2) (S 12 3) (S 12 4) (S 12 5) (S 12 6) (S 12 7), flX cI cZ (a 1) (a 2) (a 3) (a 4) (a 5) (a 6) (a 7) (a 8) (S 0) (S 1) (S 2) (S 3) (S 4) (S 5) (S 6), ntX cI (a 9) (a 10) (a 11) (a 12) (S 7) (S 8) (S 9) (S 12 8), daX cI (a 13) (a 14) (S 10) (S 11)]) 0 0 := by
  refine C0_int (cc := cX6_ribbon) (maxL := 4) (rt := .int) (by decide) rfl (Nat.le_of_ble_eq_true rfl) (rfl) ?_
  intro p e s m below meth c A ls Q X hK hP hD hS hA hl hend
  have X : CallFix p m c cX6_ribbon 4 s ([.ref x0, .int (nI r), .int 4] : List Value).toArray wsX6_ribbon RX6 := X
  obtain ⟨hx, hb, hml, hown, hts⟩ := id X
  have hl : lv_has ls 4 [(0, .ref x0), (1, .int (nI r)), (2, .int 4)] := hl
  have hinX4 : ∀ w ∈ u_ws RX4 TX4 12, w ∈ wsX6_ribbon := by decide +kernel
  have hinX6 : ∀ w ∈ u_ws RX6 TX6 7, w ∈ wsX6_ribbon := by decide +kernel
  refine lv_iload_n hx hb dX6_ribbon_0 rfl (lv_at hl 1 rfl) ?_
  refine kcallS (As := [.int (nI r)]) (rest := []) (Wn := [rbC x0 (a 0) p0 q0 t0 k0 f0 w0, stO a (S 12 0) (S 12 1) (S 12 2) (S 12 3) (S 12 4) (S 12 5) (S 12 6) (S 12 7), flX cI cZ (a 1) (a 2) (a 3) (a 4) (a 5) (a 6) (a 7) (a 8) (S 0) (S 1) (S 2) (S 3) (S 4) (S 5) (S 6), ntX cI (a 9) (a 10) (a 11) (a 12) (S 7) (S 8) (S 9) (S 12 8), daX cI (a 13) (a 14) (S 10) (S 11)]) X (c_X6_checkRibbon l D cI cZ cS cJ r (by omega)) (va_cwS 1 hts gX6_ribbon_X6_checkRibbon rfl rfl rfl (by decide +kernel) ⟨Nat.le_of_ble_eq_true rfl, Nat.le_of_ble_eq_true rfl⟩) hK hP hD hS hA [] rfl (by decide +kernel) rfl rfl rfl rfl hl.1 rfl (Nat.le_of_ble_eq_true rfl) dX6_ribbon_1 ⟨Nat.le_of_ble_eq_true rfl, Nat.le_of_ble_eq_true rfl⟩ (fun H locs hP hD hS => ?_)
  refine lv_iload_n hx hb dX6_ribbon_4 rfl (lv_at hl 2 rfl) ?_
  refine lv_iconst (v := 0) hx hb dX6_ribbon_5 (by decide) ?_
  refine lv_iconst (v := 4) hx hb dX6_ribbon_6 (by decide) ?_
  refine kcallS (As := [.int 4, .int 0, .int 4]) (rest := []) (Wn := [rbC x0 (a 0) p0 q0 t0 k0 f0 w0, stO a (S 12 0) (S 12 1) (S 12 2) (S 12 3) (S 12 4) (S 12 5) (S 12 6) (S 12 7), flX cI cZ (a 1) (a 2) (a 3) (a 4) (a 5) (a 6) (a 7) (a 8) (S 0) (S 1) (S 2) (S 3) (S 4) (S 5) (S 6), ntX cI (a 9) (a 10) (a 11) (a 12) (S 7) (S 8) (S 9) (S 12 8), daX cI (a 13) (a 14) (S 10) (S 11)]) X (c_X6_checkRange l D cI cZ cS cJ 4 0 4 (by decide) (by decide)) (va_cwS 3 hts gX6_ribbon_X6_checkRange rfl rfl rfl (by decide +kernel) ⟨Nat.le_of_ble_eq_true rfl, Nat.le_of_ble_eq_true rfl⟩) hK hP hD hS hA [] rfl (by decide +kernel) rfl rfl rfl rfl hl.1 rfl (Nat.le_of_ble_eq_true rfl) dX6_ribbon_7 ⟨Nat.le_of_ble_eq_true rfl, Nat.le_of_ble_eq_true rfl⟩ (fun H locs hP hD hS => ?_)
  refine lv_aload_n hx hb dX6_ribbon_10 rfl (lv_at hl 0 rfl) ?_
  refine va_get (D := D) (ci := 6) (v := .ref (a 0)) (C := RX6) (T := TX6) (N := 7) hx hb hts hinX6 hown hK hP 0 rfl rfl 0 (by decide) (hts (.fieldLink RX6 12 "RibbonBalloons" "now" "LRibbonBalloons$State;") (by decide +kernel)) (fun _ h9 => h9) rfl dX6_ribbon_11 ?_
  refine va_get (D := D) (ci := 4) (v := .ref (a 1)) (C := RX4) (T := TX4) (N := 12) hx hb hts hinX4 hown hK hP 1 rfl rfl 0 (by decide) (hts (.fieldLink RX6 62 "RibbonBalloons$State" "flock" "LRibbonBalloons$Flock;") (by decide +kernel)) (fun _ h9 => h9) rfl dX6_ribbon_14 ?_
  refine lv_astore_n (lv' := [(3, .ref (a 1)), (0, .ref x0), (1, .int (nI r)), (2, .int 4)]) hx hb dX6_ribbon_17 rfl hl (by decide) rfl (fun ls hl => ?_)
  refine lv_iload_n hx hb dX6_ribbon_18 rfl (lv_at hl 3 rfl) ?_
  refine lv_tableOut (tgt := 83) hx hb dX6_ribbon_19 (by decide) (by decide) ?_
  refine lv_aload_n hx hb dX6_ribbon_83 rfl (lv_at hl 0 rfl) ?_
  refine lv_iload_n hx hb dX6_ribbon_84 rfl (lv_at hl 2 rfl) ?_
  refine kcallV (As := [.int (nI r)]) (rest := []) (Wn := [rbC x0 (a 0) p0 q0 t0 k0 f0 w0, stO a (S 12 0) (S 12 1) (S 12 2) (S 12 3) (S 12 4) (S 12 5) (S 12 6) (S 12 7), flX cI cZ (a 1) (a 2) (a 3) (a 4) (a 5) (a 6) (a 7) (a 8) (S 0) (S 1) (S 2) (S 3) (S 4) (S 5) (S 6), ntX cI (a 9) (a 10) (a 11) (a 12) (S 7) (S 8) (S 9) (S 12 8), daX cI (a 13) (a 14) (S 10) (S 11)]) X (c_X0_wouldSnap l D cI cZ cS cJ (a 1) (a 2) (a 3) (a 4) (a 5) (a 6) (a 7) (a 8) S r (by omega)) (cwV 1 hts gX6_ribbon_X0_wouldSnap rfl rfl rfl (by decide +kernel) ⟨Nat.le_of_ble_eq_true rfl, Nat.le_of_ble_eq_true rfl⟩) hK hP hD hS hA [2] rfl (by decide +kernel) rfl rfl rfl 2 0 rfl rfl rfl hl.1 rfl (Nat.le_of_ble_eq_true rfl) dX6_ribbon_85 ⟨Nat.le_of_ble_eq_true rfl, Nat.le_of_ble_eq_true rfl⟩ (fun H locs hP hD hS => ?_)
  refine lv_if_eq (tgt := 95) hx hb dX6_ribbon_88 (by decide) (fun c88 => ?_) (fun c88 => ?_)
  · skip
    refine lv_iconst (v := 0) hx hb dX6_ribbon_95 (by decide) ?_
    refine hend _ _ _ _ _ ?_ hP hD hS dX6_ribbon_96
    first | exact b1_1 c88 | exact c88.symm
  · skip
    refine lv_iconst (v := 1) hx hb dX6_ribbon_91 (by decide) ?_
    refine lv_goto (tgt := 96) hx hb dX6_ribbon_92 (by decide) ?_
    refine hend _ _ _ _ _ ?_ hP hD hS dX6_ribbon_96
    first | exact b1_1 c88 | exact c88.symm

theorem c_X6_ribbon (l : Launch) (D : va_G) (cI cZ cS cJ : ClassId) (x0 : Nat) (p0 : Nat) (q0 : Nat) (t0 : Nat) (k0 : Nat) (f0 : Nat) (w0 : Int32) (a : Nat → Nat) (S : Nat → Nat → Int32) (r : Nat) (w : Nat) (hr7 : r < 7) (hw : w < 5) : C0 l yX6_ribbon wsX6_ribbon ({ frames := 5, cells := 0, slots := 0, locals := 108 }) D (tyL cI cZ cS cJ) [.ref x0, .int (nI r), .int (nI w)] (List.flatten [rbC x0 (a 0) p0 q0 t0 k0 f0 w0, stO a (S 12 0) (S 12 1) (S 12 2) (S 12 3) (S 12 4) (S 12 5) (S 12 6) (S 12 7), flX cI cZ (a 1) (a 2) (a 3) (a 4) (a 5) (a 6) (a 7) (a 8) (S 0) (S 1) (S 2) (S 3) (S 4) (S 5) (S 6), ntX cI (a 9) (a 10) (a 11) (a 12) (S 7) (S 8) (S 9) (S 12 8), daX cI (a 13) (a 14) (S 10) (S 11)]) (some (.int (ribS S r w))) (List.flatten [rbC x0 (a 0) p0 q0 t0 k0 f0 w0, stO a (S 12 0) (S 12 1) (S 12 2) (S 12 3) (S 12 4) (S 12 5) (S 12 6) (S 12 7), flX cI cZ (a 1) (a 2) (a 3) (a 4) (a 5) (a 6) (a 7) (a 8) (S 0) (S 1) (S 2) (S 3) (S 4) (S 5) (S 6), ntX cI (a 9) (a 10) (a 11) (a 12) (S 7) (S 8) (S 9) (S 12 8), daX cI (a 13) (a 14) (S 10) (S 11)]) 0 0 := by
  rcases (show w = 0 ∨ w = 1 ∨ w = 2 ∨ w = 3 ∨ w = 4 by omega) with rfl | rfl | rfl | rfl | rfl
  · exact c_X6_ribbon0 l D cI cZ cS cJ x0 p0 q0 t0 k0 f0 w0 a S r hr7
  · exact c_X6_ribbon1 l D cI cZ cS cJ x0 p0 q0 t0 k0 f0 w0 a S r hr7
  · exact c_X6_ribbon2 l D cI cZ cS cJ x0 p0 q0 t0 k0 f0 w0 a S r hr7
  · exact c_X6_ribbon3 l D cI cZ cS cJ x0 p0 q0 t0 k0 f0 w0 a S r hr7
  · exact c_X6_ribbon4 l D cI cZ cS cJ x0 p0 q0 t0 k0 f0 w0 a S r hr7

set_option maxHeartbeats 4000000 in
set_option maxRecDepth 100000 in
theorem c_X0_lift (l : Launch) (D : va_G) (cI cZ cS cJ : ClassId) (h0 : Nat) (h1 : Nat) (h2 : Nat) (h3 : Nat) (h4 : Nat) (h5 : Nat) (h6 : Nat) (h7 : Nat) (F : Nat → Nat → Int32) (b : Nat) (hb8 : b < 8) : C0 l yX0_lift wsX0_lift ({ frames := 0, cells := 0, slots := 0, locals := 0 }) D (tyL cI cZ cS cJ) [.ref h0, .int (nI b)] (List.flatten [flX cI cZ h0 h1 h2 h3 h4 h5 h6 h7 (F 0) (F 1) (F 2) (F 3) (F 4) (F 5) (F 6)]) (some (.int (lift F b))) (List.flatten [flX cI cZ h0 h1 h2 h3 h4 h5 h6 h7 (F 0) (F 1) (F 2) (F 3) (F 4) (F 5) (F 6)]) 0 0 := by
  refine C0_int (cc := cX0_lift) (maxL := 2) (rt := .int) (by decide) rfl (Nat.le_of_ble_eq_true rfl) (rfl) ?_
  intro p e s m below meth c A ls Q X hK hP hD hS hA hl hend
  have X : CallFix p m c cX0_lift 2 s ([.ref h0, .int (nI b)] : List Value).toArray wsX0_lift RX0 := X
  obtain ⟨hx, hb, hml, hown, hts⟩ := id X
  have hl : lv_has ls 2 [(0, .ref h0), (1, .int (nI b))] := hl
  have hinX0 : ∀ w ∈ u_ws RX0 TX0 7, w ∈ wsX0_lift := by decide +kernel
  refine lv_aload_n hx hb dX0_lift_0 rfl (lv_at hl 0 rfl) ?_
  refine va_get (D := D) (ci := 0) (v := .ref h1) (C := RX0) (T := TX0) (N := 7) hx hb hts hinX0 hown hK hP 0 rfl rfl 0 (by decide) (hts (.fieldLink RX0 9 "RibbonBalloons$Flock" "gas" "[I") (by decide +kernel)) (fun _ h9 => h9) rfl dX0_lift_1 ?_
  refine lv_iload_n hx hb dX0_lift_4 rfl (lv_at hl 1 rfl) ?_
  refine r_iald hx hb hK hP 1 0 b (f := F 0) rfl rfl (by omega) (by omega) dX0_lift_5 ?_
  refine lv_bipush (v := 10) hx hb dX0_lift_6 (by decide) ?_
  refine lv_isub hx hb dX0_lift_8 ?_
  refine lv_iconst (v := 5) hx hb dX0_lift_9 (by decide) ?_
  refine lv_aload_n hx hb dX0_lift_10 rfl (lv_at hl 0 rfl) ?_
  refine va_get (D := D) (ci := 0) (v := .ref h2) (C := RX0) (T := TX0) (N := 7) hx hb hts hinX0 hown hK hP 0 rfl rfl 1 (by decide) (hts (.fieldLink RX0 15 "RibbonBalloons$Flock" "bags" "[I") (by decide +kernel)) (fun _ h9 => h9) rfl dX0_lift_11 ?_
  refine lv_iload_n hx hb dX0_lift_14 rfl (lv_at hl 1 rfl) ?_
  refine r_iald hx hb hK hP 2 0 b (f := F 1) rfl rfl (by omega) (by omega) dX0_lift_15 ?_
  refine lv_imul hx hb dX0_lift_16 ?_
  refine lv_isub hx hb dX0_lift_17 ?_
  refine hend _ _ _ _ _ ?_ hP hD hS dX0_lift_18
  exact rfl

set_option maxHeartbeats 4000000 in
set_option maxRecDepth 100000 in
theorem c_X0_wanted (l : Launch) (D : va_G) (cI cZ cS cJ : ClassId) (h0 : Nat) (h1 : Nat) (h2 : Nat) (h3 : Nat) (h4 : Nat) (h5 : Nat) (h6 : Nat) (h7 : Nat) (F : Nat → Nat → Int32) (b : Nat) (hb8 : b < 8) : C0 l yX0_wanted wsX0_wanted ({ frames := 1, cells := 0, slots := 0, locals := 21 }) D (tyL cI cZ cS cJ) [.ref h0, .int (nI b)] (List.flatten [flX cI cZ h0 h1 h2 h3 h4 h5 h6 h7 (F 0) (F 1) (F 2) (F 3) (F 4) (F 5) (F 6)]) (some (.int (wt F b))) (List.flatten [flX cI cZ h0 h1 h2 h3 h4 h5 h6 h7 (F 0) (F 1) (F 2) (F 3) (F 4) (F 5) (F 6)]) 0 0 := by
  refine C0_int (cc := cX0_wanted) (maxL := 3) (rt := .int) (by decide) rfl (Nat.le_of_ble_eq_true rfl) (rfl) ?_
  intro p e s m below meth c A ls Q X hK hP hD hS hA hl hend
  have X : CallFix p m c cX0_wanted 3 s ([.ref h0, .int (nI b)] : List Value).toArray wsX0_wanted RX0 := X
  obtain ⟨hx, hb, hml, hown, hts⟩ := id X
  have hl : lv_has ls 3 [(0, .ref h0), (1, .int (nI b))] := hl
  refine lv_bipush (v := 10) hx hb dX0_wanted_0 (by decide) ?_
  refine lv_aload_n hx hb dX0_wanted_2 rfl (lv_at hl 0 rfl) ?_
  refine lv_iload_n hx hb dX0_wanted_3 rfl (lv_at hl 1 rfl) ?_
  refine kcallV (As := [.int (nI b)]) (rest := [.int 10]) (Wn := [flX cI cZ h0 h1 h2 h3 h4 h5 h6 h7 (F 0) (F 1) (F 2) (F 3) (F 4) (F 5) (F 6)]) X (c_X0_lift l D cI cZ cS cJ h0 h1 h2 h3 h4 h5 h6 h7 F b (by omega)) (cwV 1 hts gX0_wanted_X0_lift rfl rfl rfl (by decide +kernel) ⟨Nat.le_of_ble_eq_true rfl, Nat.le_of_ble_eq_true rfl⟩) hK hP hD hS hA [0] rfl (by decide +kernel) rfl rfl rfl 0 0 rfl rfl rfl hl.1 rfl (Nat.le_of_ble_eq_true rfl) dX0_wanted_4 ⟨Nat.le_of_ble_eq_true rfl, Nat.le_of_ble_eq_true rfl⟩ (fun H locs hP hD hS => ?_)
  refine lv_imul hx hb dX0_wanted_7 ?_
  refine lv_istore_n (lv' := [(2, .int (10 * (lift F b))), (0, .ref h0), (1, .int (nI b))]) hx hb dX0_wanted_8 rfl hl (by decide) rfl (fun ls hl => ?_)
  refine lv_iconst (v := 0) hx hb dX0_wanted_9 (by decide) ?_
  refine lv_sipush (v := 999) hx hb dX0_wanted_10 (by decide) ?_
  refine lv_iload_n hx hb dX0_wanted_13 rfl (lv_at hl 0 rfl) ?_
  refine va_mmin hx hb (hml.trans hl.1.symm) hown (hts (.methodLink RX0 53 Lib.Math.min.name) (by decide +kernel)) (hts (.static Lib.Math.min.name) (by decide +kernel)) (hts (.initialized "java/lang/Math") (by decide +kernel)) (hts (.code Lib.Math.min.name Lib.Math.min.code 2 (some .int)) (by decide +kernel)) (Nat.le_of_ble_eq_true rfl) (Nat.le_of_ble_eq_true rfl) (Nat.zero_le _) (Nat.zero_le _) dX0_wanted_14 ?_
  refine lv_eqi (y := mn 999 (10 * (lift F b))) rfl ?_
  refine va_mmax hx hb (hml.trans hl.1.symm) hown (hts (.methodLink RX0 59 Lib.Math.max.name) (by decide +kernel)) (hts (.static Lib.Math.max.name) (by decide +kernel)) (hts (.initialized "java/lang/Math") (by decide +kernel)) (hts (.code Lib.Math.max.name Lib.Math.max.code 2 (some .int)) (by decide +kernel)) (Nat.le_of_ble_eq_true rfl) (Nat.le_of_ble_eq_true rfl) (Nat.zero_le _) (Nat.zero_le _) dX0_wanted_17 ?_
  refine lv_eqi (y := mx 0 (mn 999 (10 * (lift F b)))) rfl ?_
  refine hend _ _ _ _ _ ?_ hP hD hS dX0_wanted_20
  exact rfl

set_option maxHeartbeats 4000000 in
set_option maxRecDepth 100000 in
theorem c_X0_comeDown (l : Launch) (D : va_G) (cI cZ cS cJ : ClassId) (h0 : Nat) (h1 : Nat) (h2 : Nat) (h3 : Nat) (h4 : Nat) (h5 : Nat) (h6 : Nat) (h7 : Nat) (F : Nat → Nat → Int32) (b : Nat) (q : Nat) (r : Nat) (hb8 : b < 8) (hq8 : q < 8) (hr7 : r < 7) : C0 l yX0_comeDown wsX0_comeDown ({ frames := 1, cells := 0, slots := 0, locals := 21 }) D (tyL cI cZ cS cJ) [.ref h0, .int (nI b), .int (nI q), .int (nI r)] (List.flatten [flX cI cZ h0 h1 h2 h3 h4 h5 h6 h7 (F 0) (F 1) (F 2) (F 3) (F 4) (F 5) (F 6)]) none (List.flatten [flX cI cZ h0 h1 h2 h3 h4 h5 h6 h7 (F 0) (F 1) (F 2) (F 3) (F 4) (F 5) (cdn F b q r)]) 0 0 := by
  refine C0_void (cc := cX0_comeDown) (maxL := 4) (by decide) rfl (Nat.le_of_ble_eq_true rfl) ?_
  intro p e s m below meth c A ls Q X hnm hK hP hD hS hA hl hend
  have X : CallFix p m c cX0_comeDown 4 s ([.ref h0, .int (nI b), .int (nI q), .int (nI r)] : List Value).toArray wsX0_comeDown RX0 := X
  obtain ⟨hx, hb, hml, hown, hts⟩ := id X
  have hl : lv_has ls 4 [(0, .ref h0), (1, .int (nI b)), (2, .int (nI q)), (3, .int (nI r))] := hl
  have hinX0 : ∀ w ∈ u_ws RX0 TX0 7, w ∈ wsX0_comeDown := by decide +kernel
  refine lv_aload_n hx hb dX0_comeDown_0 rfl (lv_at hl 0 rfl) ?_
  refine va_get (D := D) (ci := 0) (v := .ref h4) (C := RX0) (T := TX0) (N := 7) hx hb hts hinX0 hown hK hP 0 rfl rfl 3 (by decide) (hts (.fieldLink RX0 21 "RibbonBalloons$Flock" "tied" "[Z") (by decide +kernel)) (fun _ h9 => h9) rfl dX0_comeDown_1 ?_
  refine lv_iload_n hx hb dX0_comeDown_4 rfl (lv_at hl 3 rfl) ?_
  refine r_zald hx hb hK hP 4 1 r (f := F 3) rfl rfl (by omega) (by omega) dX0_comeDown_5 ?_
  refine lv_if_eq (tgt := 37) hx hb dX0_comeDown_6 (by decide) (fun c6 => ?_) (fun c6 => ?_)
  · skip
    obtain ⟨hP, hD⟩ := PD_cg hP hD 7 (cdn F b q r) rfl (fun j _ => by first | exact (congrFun (if_pos c6) j).symm | exact (congrFun (if_neg c6) j).symm) (wn := List.flatten [flX cI cZ h0 h1 h2 h3 h4 h5 h6 h7 (F 0) (F 1) (F 2) (F 3) (F 4) (F 5) (cdn F b q r)]) rfl
    exact hend _ _ _ _ hP hD hS dX0_comeDown_37
  · skip
    refine lv_aload_n hx hb dX0_comeDown_9 rfl (lv_at hl 0 rfl) ?_
    refine va_get (D := D) (ci := 0) (v := .ref h7) (C := RX0) (T := TX0) (N := 7) hx hb hts hinX0 hown hK hP 0 rfl rfl 6 (by decide) (hts (.fieldLink RX0 31 "RibbonBalloons$Flock" "heights" "[I") (by decide +kernel)) (fun _ h9 => h9) rfl dX0_comeDown_10 ?_
    refine lv_iload_n hx hb dX0_comeDown_13 rfl (lv_at hl 1 rfl) ?_
    refine lv_aload_n hx hb dX0_comeDown_14 rfl (lv_at hl 0 rfl) ?_
    refine va_get (D := D) (ci := 0) (v := .ref h7) (C := RX0) (T := TX0) (N := 7) hx hb hts hinX0 hown hK hP 0 rfl rfl 6 (by decide) (hts (.fieldLink RX0 31 "RibbonBalloons$Flock" "heights" "[I") (by decide +kernel)) (fun _ h9 => h9) rfl dX0_comeDown_15 ?_
    refine lv_iload_n hx hb dX0_comeDown_18 rfl (lv_at hl 1 rfl) ?_
    refine r_iald hx hb hK hP 7 0 b (f := F 6) rfl rfl (by omega) (by omega) dX0_comeDown_19 ?_
    refine lv_aload_n hx hb dX0_comeDown_20 rfl (lv_at hl 0 rfl) ?_
    refine va_get (D := D) (ci := 0) (v := .ref h7) (C := RX0) (T := TX0) (N := 7) hx hb hts hinX0 hown hK hP 0 rfl rfl 6 (by decide) (hts (.fieldLink RX0 31 "RibbonBalloons$Flock" "heights" "[I") (by decide +kernel)) (fun _ h9 => h9) rfl dX0_comeDown_21 ?_
    refine lv_iload_n hx hb dX0_comeDown_24 rfl (lv_at hl 2 rfl) ?_
    refine r_iald hx hb hK hP 7 0 q (f := F 6) rfl rfl (by omega) (by omega) dX0_comeDown_25 ?_
    refine lv_aload_n hx hb dX0_comeDown_26 rfl (lv_at hl 0 rfl) ?_
    refine va_get (D := D) (ci := 0) (v := .ref h5) (C := RX0) (T := TX0) (N := 7) hx hb hts hinX0 hown hK hP 0 rfl rfl 4 (by decide) (hts (.fieldLink RX0 25 "RibbonBalloons$Flock" "lengths" "[I") (by decide +kernel)) (fun _ h9 => h9) rfl dX0_comeDown_27 ?_
    refine lv_iload_n hx hb dX0_comeDown_30 rfl (lv_at hl 3 rfl) ?_
    refine r_iald hx hb hK hP 5 0 r (f := F 4) rfl rfl (by omega) (by omega) dX0_comeDown_31 ?_
    refine lv_iadd hx hb dX0_comeDown_32 ?_
    refine va_mmin hx hb (hml.trans hl.1.symm) hown (hts (.methodLink RX0 53 Lib.Math.min.name) (by decide +kernel)) (hts (.static Lib.Math.min.name) (by decide +kernel)) (hts (.initialized "java/lang/Math") (by decide +kernel)) (hts (.code Lib.Math.min.name Lib.Math.min.code 2 (some .int)) (by decide +kernel)) (Nat.le_of_ble_eq_true rfl) (Nat.le_of_ble_eq_true rfl) (Nat.zero_le _) (Nat.zero_le _) dX0_comeDown_33 ?_
    refine lv_eqi (y := mn ((F 6) b) (((F 6) q) + ((F 4) r))) rfl ?_
    refine r_iast hx hb hK hP hD hS 7 0 b (f := F 6) (x := mn ((F 6) b) (((F 6) q) + ((F 4) r))) (wn := List.flatten [flX cI cZ h0 h1 h2 h3 h4 h5 h6 h7 (F 0) (F 1) (F 2) (F 3) (F 4) (F 5) (upd (F 6) b (mn ((F 6) b) (((F 6) q) + ((F 4) r))))]) rfl rfl (by omega) (by omega) rfl dX0_comeDown_36 (fun H locs hP hD hS => ?_)
    obtain ⟨hP, hD⟩ := PD_cg hP hD 7 (cdn F b q r) rfl (fun j _ => by first | exact (congrFun (if_pos c6) j).symm | exact (congrFun (if_neg c6) j).symm) (wn := List.flatten [flX cI cZ h0 h1 h2 h3 h4 h5 h6 h7 (F 0) (F 1) (F 2) (F 3) (F 4) (F 5) (cdn F b q r)]) rfl
    exact hend _ _ _ _ hP hD hS dX0_comeDown_37

set_option maxHeartbeats 4000000 in
set_option maxRecDepth 100000 in
theorem c_X0_mendHeights (l : Launch) (D : va_G) (cI cZ cS cJ : ClassId) (h0 : Nat) (h1 : Nat) (h2 : Nat) (h3 : Nat) (h4 : Nat) (h5 : Nat) (h6 : Nat) (h7 : Nat) (F : Nat → Nat → Int32)  : C0 l yX0_mendHeights wsX0_mendHeights ({ frames := 2, cells := 0, slots := 0, locals := 44 }) D (tyL cI cZ cS cJ) [.ref h0] (List.flatten [flX cI cZ h0 h1 h2 h3 h4 h5 h6 h7 (F 0) (F 1) (F 2) (F 3) (F 4) (F 5) (F 6)]) none (List.flatten [flX cI cZ h0 h1 h2 h3 h4 h5 h6 h7 (F 0) (F 1) (F 2) (F 3) (F 4) (F 5) (ht F)]) 0 0 := by
  refine C0_void (cc := cX0_mendHeights) (maxL := 2) (by decide) rfl (Nat.le_of_ble_eq_true rfl) ?_
  intro p e s m below meth c A ls Q X hnm hK hP hD hS hA hl hend
  have X : CallFix p m c cX0_mendHeights 2 s ([.ref h0] : List Value).toArray wsX0_mendHeights RX0 := X
  obtain ⟨hx, hb, hml, hown, hts⟩ := id X
  have hl : lv_has ls 2 [(0, .ref h0)] := hl
  have hinX0 : ∀ w ∈ u_ws RX0 TX0 7, w ∈ wsX0_mendHeights := by decide +kernel
  refine lv_iconst (v := 0) hx hb dX0_mendHeights_0 (by decide) ?_
  refine lv_istore_n (lv' := [(1, .int 0), (0, .ref h0)]) hx hb dX0_mendHeights_1 rfl hl (by decide) rfl (fun ls hl => ?_)
  have lp_2 : ∀ (nn : Nat) (i : Nat), True → (i ≤ 8) → 8 - i < nn → ∀ (H : Heap) (locs : List Loc) (ls : Array Slot), va_P D vwCl (List.flatten [flX cI cZ h0 h1 h2 h3 h4 h5 h6 h7 (F 0) (F 1) (F 2) (F 3) (F 4) (F 5) (w1 F i)]) H → va_D A (List.flatten [flX cI cZ h0 h1 h2 h3 h4 h5 h6 h7 (F 0) (F 1) (F 2) (F 3) (F 4) (F 5) (w1 F i)]) → va_S A s.heap H locs → lv_has ls 2 [(0, .ref h0), (1, .int (nI i))] → W p l e ({ frames := 2, cells := 0, slots := 0, locals := 44 } : Room) s m ([.ref h0] : List Value).toArray below meth c H locs 0 0 Q (F0 m 2 ls []) := by
    intro nn
    induction nn with
    | zero => intro i _ hi hmz; exact absurd hmz (Nat.not_lt_zero _)
    | succ nn ih =>
      intro i _ hi hms H locs ls hP hD hS hl
      refine lv_iload_n hx hb dX0_mendHeights_2 rfl (lv_at hl 1 rfl) ?_
      refine lv_bipush (v := 8) hx hb dX0_mendHeights_3 (by decide) ?_
      refine n_ge (i := i) (j := 8) (tgt := 25) hx hb (by omega) (by omega) dX0_mendHeights_5 (by decide) (fun c5 => ?_) (fun c5 => ?_)
      · skip
        refine lv_iconst (v := 0) hx hb dX0_mendHeights_25 (by decide) ?_
        refine lv_istore_n (lv' := [(1, .int 0), (0, .ref h0)]) hx hb dX0_mendHeights_26 rfl hl (by decide) rfl (fun ls hl => ?_)
        have lp_27 : ∀ (nn : Nat) (k : Nat), True → (k ≤ 7) → 7 - k < nn → ∀ (H : Heap) (locs : List Loc) (ls : Array Slot), va_P D vwCl (List.flatten [flX cI cZ h0 h1 h2 h3 h4 h5 h6 h7 (F 0) (F 1) (F 2) (F 3) (F 4) (F 5) (w2 F k)]) H → va_D A (List.flatten [flX cI cZ h0 h1 h2 h3 h4 h5 h6 h7 (F 0) (F 1) (F 2) (F 3) (F 4) (F 5) (w2 F k)]) → va_S A s.heap H locs → lv_has ls 2 [(0, .ref h0), (1, .int (nI k))] → W p l e ({ frames := 2, cells := 0, slots := 0, locals := 44 } : Room) s m ([.ref h0] : List Value).toArray below meth c H locs 0 0 Q (F0 m 27 ls []) := by
          intro nn
          induction nn with
          | zero => intro k _ hk hmz; exact absurd hmz (Nat.not_lt_zero _)
          | succ nn ih =>
            intro k _ hk hms H locs ls hP hD hS hl
            refine lv_iload_n hx hb dX0_mendHeights_27 rfl (lv_at hl 1 rfl) ?_
            refine lv_bipush (v := 7) hx hb dX0_mendHeights_28 (by decide) ?_
            refine n_ge (i := k) (j := 7) (tgt := 48) hx hb (by omega) (by omega) dX0_mendHeights_30 (by decide) (fun c30 => ?_) (fun c30 => ?_)
            · skip
              refine lv_bipush (v := 6) hx hb dX0_mendHeights_48 (by decide) ?_
              refine lv_istore_n (lv' := [(1, .int 6), (0, .ref h0)]) hx hb dX0_mendHeights_50 rfl hl (by decide) rfl (fun ls hl => ?_)
              have lp_51 : ∀ (nn : Nat) (k : Nat), True → (k ≤ 7) → k < nn → ∀ (H : Heap) (locs : List Loc) (ls : Array Slot), va_P D vwCl (List.flatten [flX cI cZ h0 h1 h2 h3 h4 h5 h6 h7 (F 0) (F 1) (F 2) (F 3) (F 4) (F 5) (w3 F k)]) H → va_D A (List.flatten [flX cI cZ h0 h1 h2 h3 h4 h5 h6 h7 (F 0) (F 1) (F 2) (F 3) (F 4) (F 5) (w3 F k)]) → va_S A s.heap H locs → lv_has ls 2 [(0, .ref h0), (1, .int (nI k - 1))] → W p l e ({ frames := 2, cells := 0, slots := 0, locals := 44 } : Room) s m ([.ref h0] : List Value).toArray below meth c H locs 0 0 Q (F0 m 51 ls []) := by
                intro nn
                induction nn with
                | zero => intro k _ hk hmz; exact absurd hmz (Nat.not_lt_zero _)
                | succ nn ih =>
                  intro k _ hk hms H locs ls hP hD hS hl
                  refine lv_iload_n hx hb dX0_mendHeights_51 rfl (lv_at hl 1 rfl) ?_
                  refine lv_if_lt (tgt := 70) hx hb dX0_mendHeights_52 (by decide) (fun c52 => ?_) (fun c52 => ?_)
                  · skip
                    obtain rfl := n_neg (by omega) c52
                    obtain ⟨hP, hD⟩ := PD_cg hP hD 7 (ht F) rfl (fun j _ => w3_0 F j) (wn := List.flatten [flX cI cZ h0 h1 h2 h3 h4 h5 h6 h7 (F 0) (F 1) (F 2) (F 3) (F 4) (F 5) (ht F)]) rfl
                    exact hend _ _ _ _ hP hD hS dX0_mendHeights_70
                  · skip
                    obtain ⟨t, rfl⟩ := n_nneg c52
                    have hl : lv_has ls 2 [(0, .ref h0), (1, .int (nI t))] := lv_re hl 1 (x := nI (t + 1) - 1) (y := nI t) rfl (n_s1 t) rfl
                    have hP : va_P D vwCl (List.flatten [flX cI cZ h0 h1 h2 h3 h4 h5 h6 h7 (F 0) (F 1) (F 2) (F 3) (F 4) (F 5) (w3 F (t + 1))]) _ := hP
                    have hD : va_D A (List.flatten [flX cI cZ h0 h1 h2 h3 h4 h5 h6 h7 (F 0) (F 1) (F 2) (F 3) (F 4) (F 5) (w3 F (t + 1))]) := hD
                    refine lv_aload_n hx hb dX0_mendHeights_55 rfl (lv_at hl 0 rfl) ?_
                    refine lv_iload_n hx hb dX0_mendHeights_56 rfl (lv_at hl 1 rfl) ?_
                    refine lv_iload_n hx hb dX0_mendHeights_57 rfl (lv_at hl 1 rfl) ?_
                    refine lv_iconst (v := 1) hx hb dX0_mendHeights_58 (by decide) ?_
                    refine lv_iadd hx hb dX0_mendHeights_59 ?_
                    refine lv_eqi (y := nI (t + 1)) (nI_add _ _) ?_
                    refine lv_iload_n hx hb dX0_mendHeights_60 rfl (lv_at hl 1 rfl) ?_
                    refine kcallV (As := [.int (nI t), .int (nI (t + 1)), .int (nI t)]) (rest := []) (Wn := [flX cI cZ h0 h1 h2 h3 h4 h5 h6 h7 (F 0) (F 1) (F 2) (F 3) (F 4) (F 5) (cdn (uR F 6 (w3 F (t + 1))) t (t + 1) t)]) X (c_X0_comeDown l D cI cZ cS cJ h0 h1 h2 h3 h4 h5 h6 h7 (uR F 6 (w3 F (t + 1))) t (t + 1) t (by omega) (by omega) (by omega)) (cwV 3 hts gX0_mendHeights_X0_comeDown rfl rfl rfl (by decide +kernel) ⟨Nat.le_of_ble_eq_true rfl, Nat.le_of_ble_eq_true rfl⟩) hK hP hD hS hA [0] rfl (by decide +kernel) rfl rfl rfl 0 0 rfl rfl rfl hl.1 rfl (Nat.le_of_ble_eq_true rfl) dX0_mendHeights_61 ⟨Nat.le_of_ble_eq_true rfl, Nat.le_of_ble_eq_true rfl⟩ (fun H locs hP hD hS => ?_)
                    refine lv_iinc (v := nI t - 1) (lv' := [(1, .int (nI t - 1)), (0, .ref h0)]) hx hb dX0_mendHeights_64 hl (k := 1) rfl (n_m1 t) (by decide) rfl (fun ls hl => ?_)
                    refine lv_goto (tgt := 51) hx hb dX0_mendHeights_67 (by decide) ?_
                    obtain ⟨hP, hD⟩ := PD_cg hP hD 7 (w3 F t) rfl (fun j _ => w3_step F (by omega) j) (wn := List.flatten [flX cI cZ h0 h1 h2 h3 h4 h5 h6 h7 (F 0) (F 1) (F 2) (F 3) (F 4) (F 5) (w3 F t)]) rfl
                    exact ih  t trivial (by omega) (by omega) _ _ _ hP hD hS (lv_sub hl [1, 0] rfl)
              obtain ⟨hP, hD⟩ := PD_cg hP hD 7 (w3 F 7) rfl (fun j hj => w2_out F c30 hj) (wn := List.flatten [flX cI cZ h0 h1 h2 h3 h4 h5 h6 h7 (F 0) (F 1) (F 2) (F 3) (F 4) (F 5) (w3 F 7)]) rfl
              exact lp_51 (7 + 1) 7 trivial (by omega) (Nat.lt_succ_self _) _ _ _ hP hD hS (lv_sub hl [1, 0] rfl)
            · skip
              refine lv_aload_n hx hb dX0_mendHeights_33 rfl (lv_at hl 0 rfl) ?_
              refine lv_iload_n hx hb dX0_mendHeights_34 rfl (lv_at hl 1 rfl) ?_
              refine lv_iconst (v := 1) hx hb dX0_mendHeights_35 (by decide) ?_
              refine lv_iadd hx hb dX0_mendHeights_36 ?_
              refine lv_eqi (y := nI (k + 1)) (nI_add _ _) ?_
              refine lv_iload_n hx hb dX0_mendHeights_37 rfl (lv_at hl 1 rfl) ?_
              refine lv_iload_n hx hb dX0_mendHeights_38 rfl (lv_at hl 1 rfl) ?_
              refine kcallV (As := [.int (nI (k + 1)), .int (nI k), .int (nI k)]) (rest := []) (Wn := [flX cI cZ h0 h1 h2 h3 h4 h5 h6 h7 (F 0) (F 1) (F 2) (F 3) (F 4) (F 5) (cdn (uR F 6 (w2 F k)) (k + 1) k k)]) X (c_X0_comeDown l D cI cZ cS cJ h0 h1 h2 h3 h4 h5 h6 h7 (uR F 6 (w2 F k)) (k + 1) k k (by omega) (by omega) (by omega)) (cwV 3 hts gX0_mendHeights_X0_comeDown rfl rfl rfl (by decide +kernel) ⟨Nat.le_of_ble_eq_true rfl, Nat.le_of_ble_eq_true rfl⟩) hK hP hD hS hA [0] rfl (by decide +kernel) rfl rfl rfl 0 0 rfl rfl rfl hl.1 rfl (Nat.le_of_ble_eq_true rfl) dX0_mendHeights_39 ⟨Nat.le_of_ble_eq_true rfl, Nat.le_of_ble_eq_true rfl⟩ (fun H locs hP hD hS => ?_)
              refine lv_iinc (v := nI (k + 1)) (lv' := [(1, .int (nI (k + 1))), (0, .ref h0)]) hx hb dX0_mendHeights_42 hl (k := 1) rfl (nI_add _ _) (by decide) rfl (fun ls hl => ?_)
              refine lv_goto (tgt := 27) hx hb dX0_mendHeights_45 (by decide) ?_
              obtain ⟨hP, hD⟩ := PD_cg hP hD 7 (w2 F (k + 1)) rfl (fun j _ => w2_step F _ j) (wn := List.flatten [flX cI cZ h0 h1 h2 h3 h4 h5 h6 h7 (F 0) (F 1) (F 2) (F 3) (F 4) (F 5) (w2 F (k + 1))]) rfl
              exact ih  (k + 1) trivial (by omega) (by omega) _ _ _ hP hD hS (lv_sub hl [1, 0] rfl)
        obtain ⟨hP, hD⟩ := PD_cg hP hD 7 (w2 F 0) rfl (fun j hj => w1_out F c5 hj) (wn := List.flatten [flX cI cZ h0 h1 h2 h3 h4 h5 h6 h7 (F 0) (F 1) (F 2) (F 3) (F 4) (F 5) (w2 F 0)]) rfl
        exact lp_27 (7 - 0 + 1) 0 trivial (by omega) (Nat.lt_succ_self _) _ _ _ hP hD hS (lv_sub hl [1, 0] rfl)
      · skip
        refine lv_aload_n hx hb dX0_mendHeights_8 rfl (lv_at hl 0 rfl) ?_
        refine va_get (D := D) (ci := 0) (v := .ref h7) (C := RX0) (T := TX0) (N := 7) hx hb hts hinX0 hown hK hP 0 rfl rfl 6 (by decide) (hts (.fieldLink RX0 31 "RibbonBalloons$Flock" "heights" "[I") (by decide +kernel)) (fun _ h9 => h9) rfl dX0_mendHeights_9 ?_
        refine lv_iload_n hx hb dX0_mendHeights_12 rfl (lv_at hl 1 rfl) ?_
        refine lv_aload_n hx hb dX0_mendHeights_13 rfl (lv_at hl 0 rfl) ?_
        refine lv_iload_n hx hb dX0_mendHeights_14 rfl (lv_at hl 1 rfl) ?_
        refine kcallV (As := [.int (nI i)]) (rest := [.int (nI i), .ref h7]) (Wn := [flX cI cZ h0 h1 h2 h3 h4 h5 h6 h7 (F 0) (F 1) (F 2) (F 3) (F 4) (F 5) (w1 F i)]) X (c_X0_wanted l D cI cZ cS cJ h0 h1 h2 h3 h4 h5 h6 h7 (uR F 6 (w1 F i)) i (by omega)) (cwV 1 hts gX0_mendHeights_X0_wanted rfl rfl rfl (by decide +kernel) ⟨Nat.le_of_ble_eq_true rfl, Nat.le_of_ble_eq_true rfl⟩) hK hP hD hS hA [0] rfl (by decide +kernel) rfl rfl rfl 0 0 rfl rfl rfl hl.1 rfl (Nat.le_of_ble_eq_true rfl) dX0_mendHeights_15 ⟨Nat.le_of_ble_eq_true rfl, Nat.le_of_ble_eq_true rfl⟩ (fun H locs hP hD hS => ?_)
        refine r_iast hx hb hK hP hD hS 7 0 i (f := w1 F i) (x := wt (uR F 6 (w1 F i)) i) (wn := List.flatten [flX cI cZ h0 h1 h2 h3 h4 h5 h6 h7 (F 0) (F 1) (F 2) (F 3) (F 4) (F 5) (upd (w1 F i) i (wt (uR F 6 (w1 F i)) i))]) rfl rfl (by omega) (by omega) rfl dX0_mendHeights_18 (fun H locs hP hD hS => ?_)
        refine lv_iinc (v := nI (i + 1)) (lv' := [(1, .int (nI (i + 1))), (0, .ref h0)]) hx hb dX0_mendHeights_19 hl (k := 1) rfl (nI_add _ _) (by decide) rfl (fun ls hl => ?_)
        refine lv_goto (tgt := 2) hx hb dX0_mendHeights_22 (by decide) ?_
        obtain ⟨hP, hD⟩ := PD_cg hP hD 7 (w1 F (i + 1)) rfl (fun j _ => congrFun (up_lt (f := F 6) (g := wt F) rfl) j) (wn := List.flatten [flX cI cZ h0 h1 h2 h3 h4 h5 h6 h7 (F 0) (F 1) (F 2) (F 3) (F 4) (F 5) (w1 F (i + 1))]) rfl
        exact ih  (i + 1) trivial (by omega) (by omega) _ _ _ hP hD hS (lv_sub hl [1, 0] rfl)
  obtain ⟨hP, hD⟩ := PD_cg hP hD 7 (w1 F 0) rfl (fun j _ => (if_neg (Nat.not_lt_zero j)).symm) (wn := List.flatten [flX cI cZ h0 h1 h2 h3 h4 h5 h6 h7 (F 0) (F 1) (F 2) (F 3) (F 4) (F 5) (w1 F 0)]) rfl
  exact lp_2 (8 - 0 + 1) 0 trivial (by omega) (Nat.lt_succ_self _) _ _ _ hP hD hS (lv_sub hl [1, 0] rfl)

set_option maxHeartbeats 4000000 in
set_option maxRecDepth 100000 in
theorem c_X0_heightByString (l : Launch) (D : va_G) (cI cZ cS cJ : ClassId) (h0 : Nat) (h1 : Nat) (h2 : Nat) (h3 : Nat) (h4 : Nat) (h5 : Nat) (h6 : Nat) (h7 : Nat) (F : Nat → Nat → Int32) (b : Nat) (hb8 : b < 8) : C0 l yX0_heightByString wsX0_heightByString ({ frames := 2, cells := 0, slots := 0, locals := 43 }) D (tyL cI cZ cS cJ) [.ref h0, .int (nI b)] (List.flatten [flX cI cZ h0 h1 h2 h3 h4 h5 h6 h7 (F 0) (F 1) (F 2) (F 3) (F 4) (F 5) (F 6)]) (some (.int (hbs F b))) (List.flatten [flX cI cZ h0 h1 h2 h3 h4 h5 h6 h7 (F 0) (F 1) (F 2) (F 3) (F 4) (F 5) (F 6)]) 0 0 := by
  refine C0_int (cc := cX0_heightByString) (maxL := 5) (rt := .int) (by decide) rfl (Nat.le_of_ble_eq_true rfl) (rfl) ?_
  intro p e s m below meth c A ls Q X hK hP hD hS hA hl hend
  have X : CallFix p m c cX0_heightByString 5 s ([.ref h0, .int (nI b)] : List Value).toArray wsX0_heightByString RX0 := X
  obtain ⟨hx, hb, hml, hown, hts⟩ := id X
  have hl : lv_has ls 5 [(0, .ref h0), (1, .int (nI b))] := hl
  have hinX0 : ∀ w ∈ u_ws RX0 TX0 7, w ∈ wsX0_heightByString := by decide +kernel
  refine lv_aload_n hx hb dX0_heightByString_0 rfl (lv_at hl 0 rfl) ?_
  refine lv_iload_n hx hb dX0_heightByString_1 rfl (lv_at hl 1 rfl) ?_
  refine kcallV (As := [.int (nI b)]) (rest := []) (Wn := [flX cI cZ h0 h1 h2 h3 h4 h5 h6 h7 (F 0) (F 1) (F 2) (F 3) (F 4) (F 5) (F 6)]) X (c_X0_wanted l D cI cZ cS cJ h0 h1 h2 h3 h4 h5 h6 h7 F b (by omega)) (cwV 1 hts gX0_heightByString_X0_wanted rfl rfl rfl (by decide +kernel) ⟨Nat.le_of_ble_eq_true rfl, Nat.le_of_ble_eq_true rfl⟩) hK hP hD hS hA [0] rfl (by decide +kernel) rfl rfl rfl 0 0 rfl rfl rfl hl.1 rfl (Nat.le_of_ble_eq_true rfl) dX0_heightByString_2 ⟨Nat.le_of_ble_eq_true rfl, Nat.le_of_ble_eq_true rfl⟩ (fun H locs hP hD hS => ?_)
  refine lv_istore_n (lv' := [(2, .int (wt F b)), (0, .ref h0), (1, .int (nI b))]) hx hb dX0_heightByString_5 rfl hl (by decide) rfl (fun ls hl => ?_)
  refine lv_iconst (v := 0) hx hb dX0_heightByString_6 (by decide) ?_
  refine lv_istore_n (lv' := [(3, .int 0), (2, .int (wt F b)), (0, .ref h0), (1, .int (nI b))]) hx hb dX0_heightByString_7 rfl hl (by decide) rfl (fun ls hl => ?_)
  refine lv_iload_n hx hb dX0_heightByString_8 rfl (lv_at hl 3 rfl) ?_
  refine lv_iconst (v := 1) hx hb dX0_heightByString_9 (by decide) ?_
  refine lv_isub hx hb dX0_heightByString_10 ?_
  refine lv_istore (lv' := [(4, .int ((nI b) - 1)), (3, .int 0), (2, .int (wt F b)), (0, .ref h0), (1, .int (nI b))]) hx hb dX0_heightByString_11 hl (by decide) rfl (fun ls hl => ?_)
  have lp_13 : ∀ (nn : Nat) (k : Nat) (x : Int32) (y : Int32), True → (k ≤ b) → (dnS F k x y = dnS F b (wt F b) 0) → k < nn → ∀ (H : Heap) (locs : List Loc) (ls : Array Slot), va_P D vwCl (List.flatten [flX cI cZ h0 h1 h2 h3 h4 h5 h6 h7 (F 0) (F 1) (F 2) (F 3) (F 4) (F 5) (F 6)]) H → va_D A (List.flatten [flX cI cZ h0 h1 h2 h3 h4 h5 h6 h7 (F 0) (F 1) (F 2) (F 3) (F 4) (F 5) (F 6)]) → va_S A s.heap H locs → lv_has ls 5 [(0, .ref h0), (1, .int (nI b)), (2, .int x), (3, .int y), (4, .int (nI k - 1))] → W p l e ({ frames := 2, cells := 0, slots := 0, locals := 43 } : Room) s m ([.ref h0, .int (nI b)] : List Value).toArray below meth c H locs 0 0 Q (F0 m 13 ls []) := by
    intro nn
    induction nn with
    | zero => intro k x y _ hk hinv hmz; exact absurd hmz (Nat.not_lt_zero _)
    | succ nn ih =>
      intro k x y _ hk hinv hms H locs ls hP hD hS hl
      refine lv_iload hx hb dX0_heightByString_13 (lv_at hl 4 rfl) ?_
      refine lv_if_lt (tgt := 57) hx hb dX0_heightByString_15 (by decide) (fun c15 => ?_) (fun c15 => ?_)
      · skip
        refine lv_iconst (v := 0) hx hb dX0_heightByString_57 (by decide) ?_
        refine lv_istore_n (lv' := [(3, .int 0), (0, .ref h0), (1, .int (nI b)), (2, .int x), (4, .int (nI k - 1))]) hx hb dX0_heightByString_58 rfl hl (by decide) rfl (fun ls hl => ?_)
        refine lv_iload_n hx hb dX0_heightByString_59 rfl (lv_at hl 2 rfl) ?_
        refine lv_istore (lv' := [(4, .int (nI b)), (3, .int 0), (0, .ref h0), (1, .int (nI b)), (2, .int x)]) hx hb dX0_heightByString_60 hl (by decide) rfl (fun ls hl => ?_)
        have lp_62 : ∀ (nn : Nat) (k2 : Nat) (x2 : Int32) (y2 : Int32), True → (k2 ≤ 7) → (upS F (7 - k2) k2 x2 y2 = hbs F b) → 7 - k2 < nn → ∀ (H : Heap) (locs : List Loc) (ls : Array Slot), va_P D vwCl (List.flatten [flX cI cZ h0 h1 h2 h3 h4 h5 h6 h7 (F 0) (F 1) (F 2) (F 3) (F 4) (F 5) (F 6)]) H → va_D A (List.flatten [flX cI cZ h0 h1 h2 h3 h4 h5 h6 h7 (F 0) (F 1) (F 2) (F 3) (F 4) (F 5) (F 6)]) → va_S A s.heap H locs → lv_has ls 5 [(0, .ref h0), (1, .int (nI b)), (2, .int x2), (3, .int y2), (4, .int (nI k2))] → W p l e ({ frames := 2, cells := 0, slots := 0, locals := 43 } : Room) s m ([.ref h0, .int (nI b)] : List Value).toArray below meth c H locs 0 0 Q (F0 m 62 ls []) := by
          intro nn
          induction nn with
          | zero => intro k2 x2 y2 _ hk2 hinv2 hmz; exact absurd hmz (Nat.not_lt_zero _)
          | succ nn ih =>
            intro k2 x2 y2 _ hk2 hinv2 hms H locs ls hP hD hS hl
            refine lv_iload hx hb dX0_heightByString_62 (lv_at hl 4 rfl) ?_
            refine lv_bipush (v := 7) hx hb dX0_heightByString_64 (by decide) ?_
            refine n_ge (i := k2) (j := 7) (tgt := 110) hx hb (by omega) (by omega) dX0_heightByString_66 (by decide) (fun c66 => ?_) (fun c66 => ?_)
            · skip
              refine lv_iload_n hx hb dX0_heightByString_110 rfl (lv_at hl 2 rfl) ?_
              refine hend _ _ _ _ _ ?_ hP hD hS dX0_heightByString_111
              first | exact upS_o1 (by omega) hinv2 | exact upS_o2 (by omega) hinv2 c76
            · skip
              refine lv_aload_n hx hb dX0_heightByString_69 rfl (lv_at hl 0 rfl) ?_
              refine va_get (D := D) (ci := 0) (v := .ref h4) (C := RX0) (T := TX0) (N := 7) hx hb hts hinX0 hown hK hP 0 rfl rfl 3 (by decide) (hts (.fieldLink RX0 21 "RibbonBalloons$Flock" "tied" "[Z") (by decide +kernel)) (fun _ h9 => h9) rfl dX0_heightByString_70 ?_
              refine lv_iload hx hb dX0_heightByString_73 (lv_at hl 4 rfl) ?_
              refine r_zald hx hb hK hP 4 1 k2 (f := F 3) rfl rfl (by omega) (by omega) dX0_heightByString_75 ?_
              refine lv_if_eq (tgt := 110) hx hb dX0_heightByString_76 (by decide) (fun c76 => ?_) (fun c76 => ?_)
              · skip
                refine lv_iload_n hx hb dX0_heightByString_110 rfl (lv_at hl 2 rfl) ?_
                refine hend _ _ _ _ _ ?_ hP hD hS dX0_heightByString_111
                first | exact upS_o1 (by omega) hinv2 | exact upS_o2 (by omega) hinv2 c76
              · skip
                refine lv_iload_n hx hb dX0_heightByString_79 rfl (lv_at hl 3 rfl) ?_
                refine lv_aload_n hx hb dX0_heightByString_80 rfl (lv_at hl 0 rfl) ?_
                refine va_get (D := D) (ci := 0) (v := .ref h5) (C := RX0) (T := TX0) (N := 7) hx hb hts hinX0 hown hK hP 0 rfl rfl 4 (by decide) (hts (.fieldLink RX0 25 "RibbonBalloons$Flock" "lengths" "[I") (by decide +kernel)) (fun _ h9 => h9) rfl dX0_heightByString_81 ?_
                refine lv_iload hx hb dX0_heightByString_84 (lv_at hl 4 rfl) ?_
                refine r_iald hx hb hK hP 5 0 k2 (f := F 4) rfl rfl (by omega) (by omega) dX0_heightByString_86 ?_
                refine lv_iadd hx hb dX0_heightByString_87 ?_
                refine lv_istore_n (lv' := [(3, .int (y2 + ((F 4) k2))), (0, .ref h0), (1, .int (nI b)), (2, .int x2), (4, .int (nI k2))]) hx hb dX0_heightByString_88 rfl hl (by decide) rfl (fun ls hl => ?_)
                refine lv_iload_n hx hb dX0_heightByString_89 rfl (lv_at hl 3 rfl) ?_
                refine lv_aload_n hx hb dX0_heightByString_90 rfl (lv_at hl 1 rfl) ?_
                refine lv_iload hx hb dX0_heightByString_91 (lv_at hl 4 rfl) ?_
                refine lv_iconst (v := 1) hx hb dX0_heightByString_93 (by decide) ?_
                refine lv_iadd hx hb dX0_heightByString_94 ?_
                refine lv_eqi (y := nI (k2 + 1)) (nI_add _ _) ?_
                refine kcallV (As := [.int (nI (k2 + 1))]) (rest := [.int x2]) (Wn := [flX cI cZ h0 h1 h2 h3 h4 h5 h6 h7 (F 0) (F 1) (F 2) (F 3) (F 4) (F 5) (F 6)]) X (c_X0_wanted l D cI cZ cS cJ h0 h1 h2 h3 h4 h5 h6 h7 F (k2 + 1) (by omega)) (cwV 1 hts gX0_heightByString_X0_wanted rfl rfl rfl (by decide +kernel) ⟨Nat.le_of_ble_eq_true rfl, Nat.le_of_ble_eq_true rfl⟩) hK hP hD hS hA [0] rfl (by decide +kernel) rfl rfl rfl 0 0 rfl rfl rfl hl.1 rfl (Nat.le_of_ble_eq_true rfl) dX0_heightByString_95 ⟨Nat.le_of_ble_eq_true rfl, Nat.le_of_ble_eq_true rfl⟩ (fun H locs hP hD hS => ?_)
                refine lv_iload_n hx hb dX0_heightByString_98 rfl (lv_at hl 0 rfl) ?_
                refine lv_iadd hx hb dX0_heightByString_99 ?_
                refine va_mmin hx hb (hml.trans hl.1.symm) hown (hts (.methodLink RX0 53 Lib.Math.min.name) (by decide +kernel)) (hts (.static Lib.Math.min.name) (by decide +kernel)) (hts (.initialized "java/lang/Math") (by decide +kernel)) (hts (.code Lib.Math.min.name Lib.Math.min.code 2 (some .int)) (by decide +kernel)) (Nat.le_of_ble_eq_true rfl) (Nat.le_of_ble_eq_true rfl) (Nat.zero_le _) (Nat.zero_le _) dX0_heightByString_100 ?_
                refine lv_eqi (y := mn x2 ((wt F (k2 + 1)) + (y2 + ((F 4) k2)))) rfl ?_
                refine lv_istore_n (lv' := [(2, .int (mn x2 ((wt F (k2 + 1)) + (y2 + ((F 4) k2))))), (3, .int (y2 + ((F 4) k2))), (0, .ref h0), (1, .int (nI b)), (4, .int (nI k2))]) hx hb dX0_heightByString_103 rfl hl (by decide) rfl (fun ls hl => ?_)
                refine lv_iinc (v := nI (k2 + 1)) (lv' := [(4, .int (nI (k2 + 1))), (2, .int (mn x2 ((wt F (k2 + 1)) + (y2 + ((F 4) k2))))), (3, .int (y2 + ((F 4) k2))), (0, .ref h0), (1, .int (nI b))]) hx hb dX0_heightByString_104 hl (k := 4) rfl (nI_add _ _) (by decide) rfl (fun ls hl => ?_)
                refine lv_goto (tgt := 62) hx hb dX0_heightByString_107 (by decide) ?_
                exact ih  (k2 + 1) (mn x2 ((wt F (k2 + 1)) + (y2 + ((F 4) k2)))) (y2 + ((F 4) k2)) trivial (by omega) (by rw [← hinv2]; exact (upS_s (by omega) c76).symm) (by omega) _ _ _ hP hD hS (lv_sub hl [3, 4, 1, 2, 0] rfl)
        exact lp_62 (7 - b + 1) b x 0 trivial (by omega) (by first | exact hbs_o1 hinv c15 | exact hbs_o2 hinv c25) (Nat.lt_succ_self _) _ _ _ hP hD hS (lv_sub hl [2, 3, 4, 1, 0] rfl)
      · skip
        obtain ⟨t, rfl⟩ := n_nneg c15
        have hl : lv_has ls 5 [(0, .ref h0), (1, .int (nI b)), (2, .int x), (3, .int y), (4, .int (nI t))] := lv_re hl 4 (x := nI (t + 1) - 1) (y := nI t) rfl (n_s1 t) rfl
        refine lv_aload_n hx hb dX0_heightByString_18 rfl (lv_at hl 0 rfl) ?_
        refine va_get (D := D) (ci := 0) (v := .ref h4) (C := RX0) (T := TX0) (N := 7) hx hb hts hinX0 hown hK hP 0 rfl rfl 3 (by decide) (hts (.fieldLink RX0 21 "RibbonBalloons$Flock" "tied" "[Z") (by decide +kernel)) (fun _ h9 => h9) rfl dX0_heightByString_19 ?_
        refine lv_iload hx hb dX0_heightByString_22 (lv_at hl 4 rfl) ?_
        refine r_zald hx hb hK hP 4 1 t (f := F 3) rfl rfl (by omega) (by omega) dX0_heightByString_24 ?_
        refine lv_if_eq (tgt := 57) hx hb dX0_heightByString_25 (by decide) (fun c25 => ?_) (fun c25 => ?_)
        · skip
          refine lv_iconst (v := 0) hx hb dX0_heightByString_57 (by decide) ?_
          refine lv_istore_n (lv' := [(3, .int 0), (0, .ref h0), (1, .int (nI b)), (2, .int x), (4, .int (nI t))]) hx hb dX0_heightByString_58 rfl hl (by decide) rfl (fun ls hl => ?_)
          refine lv_iload_n hx hb dX0_heightByString_59 rfl (lv_at hl 2 rfl) ?_
          refine lv_istore (lv' := [(4, .int (nI b)), (3, .int 0), (0, .ref h0), (1, .int (nI b)), (2, .int x)]) hx hb dX0_heightByString_60 hl (by decide) rfl (fun ls hl => ?_)
          have lp_62 : ∀ (nn : Nat) (k2 : Nat) (x2 : Int32) (y2 : Int32), True → (k2 ≤ 7) → (upS F (7 - k2) k2 x2 y2 = hbs F b) → 7 - k2 < nn → ∀ (H : Heap) (locs : List Loc) (ls : Array Slot), va_P D vwCl (List.flatten [flX cI cZ h0 h1 h2 h3 h4 h5 h6 h7 (F 0) (F 1) (F 2) (F 3) (F 4) (F 5) (F 6)]) H → va_D A (List.flatten [flX cI cZ h0 h1 h2 h3 h4 h5 h6 h7 (F 0) (F 1) (F 2) (F 3) (F 4) (F 5) (F 6)]) → va_S A s.heap H locs → lv_has ls 5 [(0, .ref h0), (1, .int (nI b)), (2, .int x2), (3, .int y2), (4, .int (nI k2))] → W p l e ({ frames := 2, cells := 0, slots := 0, locals := 43 } : Room) s m ([.ref h0, .int (nI b)] : List Value).toArray below meth c H locs 0 0 Q (F0 m 62 ls []) := by
            intro nn
            induction nn with
            | zero => intro k2 x2 y2 _ hk2 hinv2 hmz; exact absurd hmz (Nat.not_lt_zero _)
            | succ nn ih =>
              intro k2 x2 y2 _ hk2 hinv2 hms H locs ls hP hD hS hl
              refine lv_iload hx hb dX0_heightByString_62 (lv_at hl 4 rfl) ?_
              refine lv_bipush (v := 7) hx hb dX0_heightByString_64 (by decide) ?_
              refine n_ge (i := k2) (j := 7) (tgt := 110) hx hb (by omega) (by omega) dX0_heightByString_66 (by decide) (fun c66 => ?_) (fun c66 => ?_)
              · skip
                refine lv_iload_n hx hb dX0_heightByString_110 rfl (lv_at hl 2 rfl) ?_
                refine hend _ _ _ _ _ ?_ hP hD hS dX0_heightByString_111
                first | exact upS_o1 (by omega) hinv2 | exact upS_o2 (by omega) hinv2 c76
              · skip
                refine lv_aload_n hx hb dX0_heightByString_69 rfl (lv_at hl 0 rfl) ?_
                refine va_get (D := D) (ci := 0) (v := .ref h4) (C := RX0) (T := TX0) (N := 7) hx hb hts hinX0 hown hK hP 0 rfl rfl 3 (by decide) (hts (.fieldLink RX0 21 "RibbonBalloons$Flock" "tied" "[Z") (by decide +kernel)) (fun _ h9 => h9) rfl dX0_heightByString_70 ?_
                refine lv_iload hx hb dX0_heightByString_73 (lv_at hl 4 rfl) ?_
                refine r_zald hx hb hK hP 4 1 k2 (f := F 3) rfl rfl (by omega) (by omega) dX0_heightByString_75 ?_
                refine lv_if_eq (tgt := 110) hx hb dX0_heightByString_76 (by decide) (fun c76 => ?_) (fun c76 => ?_)
                · skip
                  refine lv_iload_n hx hb dX0_heightByString_110 rfl (lv_at hl 2 rfl) ?_
                  refine hend _ _ _ _ _ ?_ hP hD hS dX0_heightByString_111
                  first | exact upS_o1 (by omega) hinv2 | exact upS_o2 (by omega) hinv2 c76
                · skip
                  refine lv_iload_n hx hb dX0_heightByString_79 rfl (lv_at hl 3 rfl) ?_
                  refine lv_aload_n hx hb dX0_heightByString_80 rfl (lv_at hl 0 rfl) ?_
                  refine va_get (D := D) (ci := 0) (v := .ref h5) (C := RX0) (T := TX0) (N := 7) hx hb hts hinX0 hown hK hP 0 rfl rfl 4 (by decide) (hts (.fieldLink RX0 25 "RibbonBalloons$Flock" "lengths" "[I") (by decide +kernel)) (fun _ h9 => h9) rfl dX0_heightByString_81 ?_
                  refine lv_iload hx hb dX0_heightByString_84 (lv_at hl 4 rfl) ?_
                  refine r_iald hx hb hK hP 5 0 k2 (f := F 4) rfl rfl (by omega) (by omega) dX0_heightByString_86 ?_
                  refine lv_iadd hx hb dX0_heightByString_87 ?_
                  refine lv_istore_n (lv' := [(3, .int (y2 + ((F 4) k2))), (0, .ref h0), (1, .int (nI b)), (2, .int x2), (4, .int (nI k2))]) hx hb dX0_heightByString_88 rfl hl (by decide) rfl (fun ls hl => ?_)
                  refine lv_iload_n hx hb dX0_heightByString_89 rfl (lv_at hl 3 rfl) ?_
                  refine lv_aload_n hx hb dX0_heightByString_90 rfl (lv_at hl 1 rfl) ?_
                  refine lv_iload hx hb dX0_heightByString_91 (lv_at hl 4 rfl) ?_
                  refine lv_iconst (v := 1) hx hb dX0_heightByString_93 (by decide) ?_
                  refine lv_iadd hx hb dX0_heightByString_94 ?_
                  refine lv_eqi (y := nI (k2 + 1)) (nI_add _ _) ?_
                  refine kcallV (As := [.int (nI (k2 + 1))]) (rest := [.int x2]) (Wn := [flX cI cZ h0 h1 h2 h3 h4 h5 h6 h7 (F 0) (F 1) (F 2) (F 3) (F 4) (F 5) (F 6)]) X (c_X0_wanted l D cI cZ cS cJ h0 h1 h2 h3 h4 h5 h6 h7 F (k2 + 1) (by omega)) (cwV 1 hts gX0_heightByString_X0_wanted rfl rfl rfl (by decide +kernel) ⟨Nat.le_of_ble_eq_true rfl, Nat.le_of_ble_eq_true rfl⟩) hK hP hD hS hA [0] rfl (by decide +kernel) rfl rfl rfl 0 0 rfl rfl rfl hl.1 rfl (Nat.le_of_ble_eq_true rfl) dX0_heightByString_95 ⟨Nat.le_of_ble_eq_true rfl, Nat.le_of_ble_eq_true rfl⟩ (fun H locs hP hD hS => ?_)
                  refine lv_iload_n hx hb dX0_heightByString_98 rfl (lv_at hl 0 rfl) ?_
                  refine lv_iadd hx hb dX0_heightByString_99 ?_
                  refine va_mmin hx hb (hml.trans hl.1.symm) hown (hts (.methodLink RX0 53 Lib.Math.min.name) (by decide +kernel)) (hts (.static Lib.Math.min.name) (by decide +kernel)) (hts (.initialized "java/lang/Math") (by decide +kernel)) (hts (.code Lib.Math.min.name Lib.Math.min.code 2 (some .int)) (by decide +kernel)) (Nat.le_of_ble_eq_true rfl) (Nat.le_of_ble_eq_true rfl) (Nat.zero_le _) (Nat.zero_le _) dX0_heightByString_100 ?_
                  refine lv_eqi (y := mn x2 ((wt F (k2 + 1)) + (y2 + ((F 4) k2)))) rfl ?_
                  refine lv_istore_n (lv' := [(2, .int (mn x2 ((wt F (k2 + 1)) + (y2 + ((F 4) k2))))), (3, .int (y2 + ((F 4) k2))), (0, .ref h0), (1, .int (nI b)), (4, .int (nI k2))]) hx hb dX0_heightByString_103 rfl hl (by decide) rfl (fun ls hl => ?_)
                  refine lv_iinc (v := nI (k2 + 1)) (lv' := [(4, .int (nI (k2 + 1))), (2, .int (mn x2 ((wt F (k2 + 1)) + (y2 + ((F 4) k2))))), (3, .int (y2 + ((F 4) k2))), (0, .ref h0), (1, .int (nI b))]) hx hb dX0_heightByString_104 hl (k := 4) rfl (nI_add _ _) (by decide) rfl (fun ls hl => ?_)
                  refine lv_goto (tgt := 62) hx hb dX0_heightByString_107 (by decide) ?_
                  exact ih  (k2 + 1) (mn x2 ((wt F (k2 + 1)) + (y2 + ((F 4) k2)))) (y2 + ((F 4) k2)) trivial (by omega) (by rw [← hinv2]; exact (upS_s (by omega) c76).symm) (by omega) _ _ _ hP hD hS (lv_sub hl [3, 4, 1, 2, 0] rfl)
          exact lp_62 (7 - b + 1) b x 0 trivial (by omega) (by first | exact hbs_o1 hinv c15 | exact hbs_o2 hinv c25) (Nat.lt_succ_self _) _ _ _ hP hD hS (lv_sub hl [2, 3, 4, 1, 0] rfl)
        · skip
          refine lv_iload_n hx hb dX0_heightByString_28 rfl (lv_at hl 3 rfl) ?_
          refine lv_aload_n hx hb dX0_heightByString_29 rfl (lv_at hl 0 rfl) ?_
          refine va_get (D := D) (ci := 0) (v := .ref h5) (C := RX0) (T := TX0) (N := 7) hx hb hts hinX0 hown hK hP 0 rfl rfl 4 (by decide) (hts (.fieldLink RX0 25 "RibbonBalloons$Flock" "lengths" "[I") (by decide +kernel)) (fun _ h9 => h9) rfl dX0_heightByString_30 ?_
          refine lv_iload hx hb dX0_heightByString_33 (lv_at hl 4 rfl) ?_
          refine r_iald hx hb hK hP 5 0 t (f := F 4) rfl rfl (by omega) (by omega) dX0_heightByString_35 ?_
          refine lv_iadd hx hb dX0_heightByString_36 ?_
          refine lv_istore_n (lv' := [(3, .int (y + ((F 4) t))), (0, .ref h0), (1, .int (nI b)), (2, .int x), (4, .int (nI t))]) hx hb dX0_heightByString_37 rfl hl (by decide) rfl (fun ls hl => ?_)
          refine lv_iload_n hx hb dX0_heightByString_38 rfl (lv_at hl 3 rfl) ?_
          refine lv_aload_n hx hb dX0_heightByString_39 rfl (lv_at hl 1 rfl) ?_
          refine lv_iload hx hb dX0_heightByString_40 (lv_at hl 4 rfl) ?_
          refine kcallV (As := [.int (nI t)]) (rest := [.int x]) (Wn := [flX cI cZ h0 h1 h2 h3 h4 h5 h6 h7 (F 0) (F 1) (F 2) (F 3) (F 4) (F 5) (F 6)]) X (c_X0_wanted l D cI cZ cS cJ h0 h1 h2 h3 h4 h5 h6 h7 F t (by omega)) (cwV 1 hts gX0_heightByString_X0_wanted rfl rfl rfl (by decide +kernel) ⟨Nat.le_of_ble_eq_true rfl, Nat.le_of_ble_eq_true rfl⟩) hK hP hD hS hA [0] rfl (by decide +kernel) rfl rfl rfl 0 0 rfl rfl rfl hl.1 rfl (Nat.le_of_ble_eq_true rfl) dX0_heightByString_42 ⟨Nat.le_of_ble_eq_true rfl, Nat.le_of_ble_eq_true rfl⟩ (fun H locs hP hD hS => ?_)
          refine lv_iload_n hx hb dX0_heightByString_45 rfl (lv_at hl 0 rfl) ?_
          refine lv_iadd hx hb dX0_heightByString_46 ?_
          refine va_mmin hx hb (hml.trans hl.1.symm) hown (hts (.methodLink RX0 53 Lib.Math.min.name) (by decide +kernel)) (hts (.static Lib.Math.min.name) (by decide +kernel)) (hts (.initialized "java/lang/Math") (by decide +kernel)) (hts (.code Lib.Math.min.name Lib.Math.min.code 2 (some .int)) (by decide +kernel)) (Nat.le_of_ble_eq_true rfl) (Nat.le_of_ble_eq_true rfl) (Nat.zero_le _) (Nat.zero_le _) dX0_heightByString_47 ?_
          refine lv_eqi (y := mn x ((wt F t) + (y + ((F 4) t)))) rfl ?_
          refine lv_istore_n (lv' := [(2, .int (mn x ((wt F t) + (y + ((F 4) t))))), (3, .int (y + ((F 4) t))), (0, .ref h0), (1, .int (nI b)), (4, .int (nI t))]) hx hb dX0_heightByString_50 rfl hl (by decide) rfl (fun ls hl => ?_)
          refine lv_iinc (v := nI t - 1) (lv' := [(4, .int (nI t - 1)), (2, .int (mn x ((wt F t) + (y + ((F 4) t))))), (3, .int (y + ((F 4) t))), (0, .ref h0), (1, .int (nI b))]) hx hb dX0_heightByString_51 hl (k := 4) rfl (n_m1 t) (by decide) rfl (fun ls hl => ?_)
          refine lv_goto (tgt := 13) hx hb dX0_heightByString_54 (by decide) ?_
          exact ih  t (mn x ((wt F t) + (y + ((F 4) t)))) (y + ((F 4) t)) trivial (by omega) (by rw [← hinv]; simp only [dnS]; rw [if_neg c25]) (by omega) _ _ _ hP hD hS (lv_sub hl [3, 4, 1, 2, 0] rfl)
  exact lp_13 (b + 1) b (wt F b) 0 trivial (Nat.le_refl _) rfl (Nat.lt_succ_self _) _ _ _ hP hD hS (lv_sub hl [3, 4, 2, 1, 0] rfl)

set_option maxHeartbeats 4000000 in
set_option maxRecDepth 100000 in
theorem c_X0_stringStart (l : Launch) (D : va_G) (cI cZ cS cJ : ClassId) (h0 : Nat) (h1 : Nat) (h2 : Nat) (h3 : Nat) (h4 : Nat) (h5 : Nat) (h6 : Nat) (h7 : Nat) (F : Nat → Nat → Int32) (b : Nat) (hb8 : b < 8) : C0 l yX0_stringStart wsX0_stringStart ({ frames := 0, cells := 0, slots := 0, locals := 0 }) D (tyL cI cZ cS cJ) [.ref h0, .int (nI b)] (List.flatten [flX cI cZ h0 h1 h2 h3 h4 h5 h6 h7 (F 0) (F 1) (F 2) (F 3) (F 4) (F 5) (F 6)]) (some (.int (nI (ss F b)))) (List.flatten [flX cI cZ h0 h1 h2 h3 h4 h5 h6 h7 (F 0) (F 1) (F 2) (F 3) (F 4) (F 5) (F 6)]) 0 0 := by
  refine C0_int (cc := cX0_stringStart) (maxL := 3) (rt := .int) (by decide) rfl (Nat.le_of_ble_eq_true rfl) (rfl) ?_
  intro p e s m below meth c A ls Q X hK hP hD hS hA hl hend
  have X : CallFix p m c cX0_stringStart 3 s ([.ref h0, .int (nI b)] : List Value).toArray wsX0_stringStart RX0 := X
  obtain ⟨hx, hb, hml, hown, hts⟩ := id X
  have hl : lv_has ls 3 [(0, .ref h0), (1, .int (nI b))] := hl
  have hinX0 : ∀ w ∈ u_ws RX0 TX0 7, w ∈ wsX0_stringStart := by decide +kernel
  refine lv_iload_n hx hb dX0_stringStart_0 rfl (lv_at hl 1 rfl) ?_
  refine lv_istore_n (lv' := [(2, .int (nI b)), (0, .ref h0), (1, .int (nI b))]) hx hb dX0_stringStart_1 rfl hl (by decide) rfl (fun ls hl => ?_)
  have lp_2 : ∀ (nn : Nat) (k : Nat), True → (k ≤ b) → (ss F k = ss F b) → k < nn → ∀ (H : Heap) (locs : List Loc) (ls : Array Slot), va_P D vwCl (List.flatten [flX cI cZ h0 h1 h2 h3 h4 h5 h6 h7 (F 0) (F 1) (F 2) (F 3) (F 4) (F 5) (F 6)]) H → va_D A (List.flatten [flX cI cZ h0 h1 h2 h3 h4 h5 h6 h7 (F 0) (F 1) (F 2) (F 3) (F 4) (F 5) (F 6)]) → va_S A s.heap H locs → lv_has ls 3 [(0, .ref h0), (1, .int (nI b)), (2, .int (nI k))] → W p l e ({ frames := 0, cells := 0, slots := 0, locals := 0 } : Room) s m ([.ref h0, .int (nI b)] : List Value).toArray below meth c H locs 0 0 Q (F0 m 2 ls []) := by
    intro nn
    induction nn with
    | zero => intro k _ hk hinv hmz; exact absurd hmz (Nat.not_lt_zero _)
    | succ nn ih =>
      intro k _ hk hinv hms H locs ls hP hD hS hl
      refine lv_iload_n hx hb dX0_stringStart_2 rfl (lv_at hl 2 rfl) ?_
      refine n_ifle (i := k) (tgt := 23) hx hb (by omega) dX0_stringStart_3 (by decide) (fun c3 => ?_) (fun c3 => ?_)
      · skip
        refine lv_iload_n hx hb dX0_stringStart_23 rfl (lv_at hl 2 rfl) ?_
        refine hend _ _ _ _ _ ?_ hP hD hS dX0_stringStart_24
        first | exact congrArg nI (ss_o1 c3 hinv) | exact congrArg nI (ss_o2 c14 hinv)
      · skip
        obtain ⟨t, rfl⟩ : ∃ t, k = t + 1 := ⟨k - 1, by omega⟩
        refine lv_aload_n hx hb dX0_stringStart_6 rfl (lv_at hl 0 rfl) ?_
        refine va_get (D := D) (ci := 0) (v := .ref h4) (C := RX0) (T := TX0) (N := 7) hx hb hts hinX0 hown hK hP 0 rfl rfl 3 (by decide) (hts (.fieldLink RX0 21 "RibbonBalloons$Flock" "tied" "[Z") (by decide +kernel)) (fun _ h9 => h9) rfl dX0_stringStart_7 ?_
        refine lv_iload_n hx hb dX0_stringStart_10 rfl (lv_at hl 2 rfl) ?_
        refine lv_iconst (v := 1) hx hb dX0_stringStart_11 (by decide) ?_
        refine lv_isub hx hb dX0_stringStart_12 ?_
        refine lv_eqi (y := nI ((t + 1) - 1)) (pk_sub (a := t + 1) (b := 1) (by omega)) ?_
        refine lv_eqi (y := nI t) (rfl) ?_
        refine r_zald hx hb hK hP 4 1 t (f := F 3) rfl rfl (by omega) (by omega) dX0_stringStart_13 ?_
        refine lv_if_eq (tgt := 23) hx hb dX0_stringStart_14 (by decide) (fun c14 => ?_) (fun c14 => ?_)
        · skip
          refine lv_iload_n hx hb dX0_stringStart_23 rfl (lv_at hl 2 rfl) ?_
          refine hend _ _ _ _ _ ?_ hP hD hS dX0_stringStart_24
          first | exact congrArg nI (ss_o1 c3 hinv) | exact congrArg nI (ss_o2 c14 hinv)
        · skip
          refine lv_iinc (v := nI t) (lv' := [(2, .int (nI t)), (0, .ref h0), (1, .int (nI b))]) hx hb dX0_stringStart_17 hl (k := 2) rfl (pk_m1 t) (by decide) rfl (fun ls hl => ?_)
          refine lv_goto (tgt := 2) hx hb dX0_stringStart_20 (by decide) ?_
          exact ih  t trivial (by omega) (by rw [← hinv]; exact (ss_s c14).symm) (by omega) _ _ _ hP hD hS (lv_sub hl [1, 2, 0] rfl)
  exact lp_2 (b + 1) b trivial (Nat.le_refl _) rfl (Nat.lt_succ_self _) _ _ _ hP hD hS (lv_sub hl [1, 2, 0] rfl)

set_option maxHeartbeats 4000000 in
set_option maxRecDepth 100000 in
theorem c_X0_stringSize (l : Launch) (D : va_G) (cI cZ cS cJ : ClassId) (h0 : Nat) (h1 : Nat) (h2 : Nat) (h3 : Nat) (h4 : Nat) (h5 : Nat) (h6 : Nat) (h7 : Nat) (F : Nat → Nat → Int32) (b : Nat) (hb8 : b < 8) : C0 l yX0_stringSize wsX0_stringSize ({ frames := 1, cells := 0, slots := 0, locals := 22 }) D (tyL cI cZ cS cJ) [.ref h0, .int (nI b)] (List.flatten [flX cI cZ h0 h1 h2 h3 h4 h5 h6 h7 (F 0) (F 1) (F 2) (F 3) (F 4) (F 5) (F 6)]) (some (.int (nI (se F (7 - b) b - ss F b + 1)))) (List.flatten [flX cI cZ h0 h1 h2 h3 h4 h5 h6 h7 (F 0) (F 1) (F 2) (F 3) (F 4) (F 5) (F 6)]) 0 0 := by
  refine C0_int (cc := cX0_stringSize) (maxL := 3) (rt := .int) (by decide) rfl (Nat.le_of_ble_eq_true rfl) (rfl) ?_
  intro p e s m below meth c A ls Q X hK hP hD hS hA hl hend
  have X : CallFix p m c cX0_stringSize 3 s ([.ref h0, .int (nI b)] : List Value).toArray wsX0_stringSize RX0 := X
  obtain ⟨hx, hb, hml, hown, hts⟩ := id X
  have hl : lv_has ls 3 [(0, .ref h0), (1, .int (nI b))] := hl
  have hinX0 : ∀ w ∈ u_ws RX0 TX0 7, w ∈ wsX0_stringSize := by decide +kernel
  refine lv_iload_n hx hb dX0_stringSize_0 rfl (lv_at hl 1 rfl) ?_
  refine lv_istore_n (lv' := [(2, .int (nI b)), (0, .ref h0), (1, .int (nI b))]) hx hb dX0_stringSize_1 rfl hl (by decide) rfl (fun ls hl => ?_)
  have lp_2 : ∀ (nn : Nat) (k : Nat), True → (k ≤ 7) → (b ≤ k) → (se F (7 - k) k = se F (7 - b) b) → 7 - k < nn → ∀ (H : Heap) (locs : List Loc) (ls : Array Slot), va_P D vwCl (List.flatten [flX cI cZ h0 h1 h2 h3 h4 h5 h6 h7 (F 0) (F 1) (F 2) (F 3) (F 4) (F 5) (F 6)]) H → va_D A (List.flatten [flX cI cZ h0 h1 h2 h3 h4 h5 h6 h7 (F 0) (F 1) (F 2) (F 3) (F 4) (F 5) (F 6)]) → va_S A s.heap H locs → lv_has ls 3 [(0, .ref h0), (1, .int (nI b)), (2, .int (nI k))] → W p l e ({ frames := 1, cells := 0, slots := 0, locals := 22 } : Room) s m ([.ref h0, .int (nI b)] : List Value).toArray below meth c H locs 0 0 Q (F0 m 2 ls []) := by
    intro nn
    induction nn with
    | zero => intro k _ hk hk2 hinv hmz; exact absurd hmz (Nat.not_lt_zero _)
    | succ nn ih =>
      intro k _ hk hk2 hinv hms H locs ls hP hD hS hl
      refine lv_iload_n hx hb dX0_stringSize_2 rfl (lv_at hl 2 rfl) ?_
      refine lv_bipush (v := 7) hx hb dX0_stringSize_3 (by decide) ?_
      refine n_ge (i := k) (j := 7) (tgt := 23) hx hb (by omega) (by omega) dX0_stringSize_5 (by decide) (fun c5 => ?_) (fun c5 => ?_)
      · skip
        refine lv_iload_n hx hb dX0_stringSize_23 rfl (lv_at hl 2 rfl) ?_
        refine lv_aload_n hx hb dX0_stringSize_24 rfl (lv_at hl 0 rfl) ?_
        refine lv_iload_n hx hb dX0_stringSize_25 rfl (lv_at hl 1 rfl) ?_
        refine kcallV (As := [.int (nI b)]) (rest := [.int (nI k)]) (Wn := [flX cI cZ h0 h1 h2 h3 h4 h5 h6 h7 (F 0) (F 1) (F 2) (F 3) (F 4) (F 5) (F 6)]) X (c_X0_stringStart l D cI cZ cS cJ h0 h1 h2 h3 h4 h5 h6 h7 F b (by omega)) (cwV 1 hts gX0_stringSize_X0_stringStart rfl rfl rfl (by decide +kernel) ⟨Nat.le_of_ble_eq_true rfl, Nat.le_of_ble_eq_true rfl⟩) hK hP hD hS hA [0] rfl (by decide +kernel) rfl rfl rfl 0 0 rfl rfl rfl hl.1 rfl (Nat.le_of_ble_eq_true rfl) dX0_stringSize_26 ⟨Nat.le_of_ble_eq_true rfl, Nat.le_of_ble_eq_true rfl⟩ (fun H locs hP hD hS => ?_)
        have hle := ss_le F b
        refine lv_isub hx hb dX0_stringSize_29 ?_
        refine lv_eqi (y := nI (k - (ss F b))) (pk_sub (a := k) (b := ss F b) (by omega)) ?_
        refine lv_iconst (v := 1) hx hb dX0_stringSize_30 (by decide) ?_
        refine lv_iadd hx hb dX0_stringSize_31 ?_
        refine lv_eqi (y := nI ((k - (ss F b)) + 1)) (nI_add _ _) ?_
        refine hend _ _ _ _ _ ?_ hP hD hS dX0_stringSize_32
        first | rw [← se_o1 (by omega) hinv] | rw [← se_o2 (by omega) c14 hinv]
      · skip
        refine lv_aload_n hx hb dX0_stringSize_8 rfl (lv_at hl 0 rfl) ?_
        refine va_get (D := D) (ci := 0) (v := .ref h4) (C := RX0) (T := TX0) (N := 7) hx hb hts hinX0 hown hK hP 0 rfl rfl 3 (by decide) (hts (.fieldLink RX0 21 "RibbonBalloons$Flock" "tied" "[Z") (by decide +kernel)) (fun _ h9 => h9) rfl dX0_stringSize_9 ?_
        refine lv_iload_n hx hb dX0_stringSize_12 rfl (lv_at hl 2 rfl) ?_
        refine r_zald hx hb hK hP 4 1 k (f := F 3) rfl rfl (by omega) (by omega) dX0_stringSize_13 ?_
        refine lv_if_eq (tgt := 23) hx hb dX0_stringSize_14 (by decide) (fun c14 => ?_) (fun c14 => ?_)
        · skip
          refine lv_iload_n hx hb dX0_stringSize_23 rfl (lv_at hl 2 rfl) ?_
          refine lv_aload_n hx hb dX0_stringSize_24 rfl (lv_at hl 0 rfl) ?_
          refine lv_iload_n hx hb dX0_stringSize_25 rfl (lv_at hl 1 rfl) ?_
          refine kcallV (As := [.int (nI b)]) (rest := [.int (nI k)]) (Wn := [flX cI cZ h0 h1 h2 h3 h4 h5 h6 h7 (F 0) (F 1) (F 2) (F 3) (F 4) (F 5) (F 6)]) X (c_X0_stringStart l D cI cZ cS cJ h0 h1 h2 h3 h4 h5 h6 h7 F b (by omega)) (cwV 1 hts gX0_stringSize_X0_stringStart rfl rfl rfl (by decide +kernel) ⟨Nat.le_of_ble_eq_true rfl, Nat.le_of_ble_eq_true rfl⟩) hK hP hD hS hA [0] rfl (by decide +kernel) rfl rfl rfl 0 0 rfl rfl rfl hl.1 rfl (Nat.le_of_ble_eq_true rfl) dX0_stringSize_26 ⟨Nat.le_of_ble_eq_true rfl, Nat.le_of_ble_eq_true rfl⟩ (fun H locs hP hD hS => ?_)
          have hle := ss_le F b
          refine lv_isub hx hb dX0_stringSize_29 ?_
          refine lv_eqi (y := nI (k - (ss F b))) (pk_sub (a := k) (b := ss F b) (by omega)) ?_
          refine lv_iconst (v := 1) hx hb dX0_stringSize_30 (by decide) ?_
          refine lv_iadd hx hb dX0_stringSize_31 ?_
          refine lv_eqi (y := nI ((k - (ss F b)) + 1)) (nI_add _ _) ?_
          refine hend _ _ _ _ _ ?_ hP hD hS dX0_stringSize_32
          first | rw [← se_o1 (by omega) hinv] | rw [← se_o2 (by omega) c14 hinv]
        · skip
          refine lv_iinc (v := nI (k + 1)) (lv' := [(2, .int (nI (k + 1))), (0, .ref h0), (1, .int (nI b))]) hx hb dX0_stringSize_17 hl (k := 2) rfl (nI_add _ _) (by decide) rfl (fun ls hl => ?_)
          refine lv_goto (tgt := 2) hx hb dX0_stringSize_20 (by decide) ?_
          exact ih  (k + 1) trivial (by omega) (by omega) (by rw [← hinv]; exact (se_s (by omega) c14).symm) (by omega) _ _ _ hP hD hS (lv_sub hl [1, 2, 0] rfl)
  exact lp_2 (7 - b + 1) b trivial (by omega) (Nat.le_refl _) rfl (Nat.lt_succ_self _) _ _ _ hP hD hS (lv_sub hl [1, 2, 0] rfl)

set_option maxHeartbeats 4000000 in
set_option maxRecDepth 100000 in
theorem c_X0_upperEnd (l : Launch) (D : va_G) (cI cZ cS cJ : ClassId) (h0 : Nat) (h1 : Nat) (h2 : Nat) (h3 : Nat) (h4 : Nat) (h5 : Nat) (h6 : Nat) (h7 : Nat) (F : Nat → Nat → Int32) (r : Nat) (hr7 : r < 7) : C0 l yX0_upperEnd wsX0_upperEnd ({ frames := 2, cells := 0, slots := 0, locals := 43 }) D (tyL cI cZ cS cJ) [.ref h0, .int (nI r)] (List.flatten [flX cI cZ h0 h1 h2 h3 h4 h5 h6 h7 (F 0) (F 1) (F 2) (F 3) (F 4) (F 5) (F 6)]) (some (.int (nI (upr F r)))) (List.flatten [flX cI cZ h0 h1 h2 h3 h4 h5 h6 h7 (F 0) (F 1) (F 2) (F 3) (F 4) (F 5) (F 6)]) 0 0 := by
  refine C0_int (cc := cX0_upperEnd) (maxL := 2) (rt := .int) (by decide) rfl (Nat.le_of_ble_eq_true rfl) (rfl) ?_
  intro p e s m below meth c A ls Q X hK hP hD hS hA hl hend
  have X : CallFix p m c cX0_upperEnd 2 s ([.ref h0, .int (nI r)] : List Value).toArray wsX0_upperEnd RX0 := X
  obtain ⟨hx, hb, hml, hown, hts⟩ := id X
  have hl : lv_has ls 2 [(0, .ref h0), (1, .int (nI r))] := hl
  have hinX0 : ∀ w ∈ u_ws RX0 TX0 7, w ∈ wsX0_upperEnd := by decide +kernel
  refine lv_aload_n hx hb dX0_upperEnd_0 rfl (lv_at hl 0 rfl) ?_
  refine va_get (D := D) (ci := 0) (v := .ref h5) (C := RX0) (T := TX0) (N := 7) hx hb hts hinX0 hown hK hP 0 rfl rfl 4 (by decide) (hts (.fieldLink RX0 25 "RibbonBalloons$Flock" "lengths" "[I") (by decide +kernel)) (fun _ h9 => h9) rfl dX0_upperEnd_1 ?_
  refine lv_iload_n hx hb dX0_upperEnd_4 rfl (lv_at hl 1 rfl) ?_
  refine r_iald hx hb hK hP 5 0 r (f := F 4) rfl rfl (by omega) (by omega) dX0_upperEnd_5 ?_
  refine lv_if_ne (tgt := 32) hx hb dX0_upperEnd_6 (by decide) (fun c6 => ?_) (fun c6 => ?_)
  · skip
    refine lv_aload_n hx hb dX0_upperEnd_32 rfl (lv_at hl 0 rfl) ?_
    refine va_get (D := D) (ci := 0) (v := .ref h7) (C := RX0) (T := TX0) (N := 7) hx hb hts hinX0 hown hK hP 0 rfl rfl 6 (by decide) (hts (.fieldLink RX0 31 "RibbonBalloons$Flock" "heights" "[I") (by decide +kernel)) (fun _ h9 => h9) rfl dX0_upperEnd_33 ?_
    refine lv_iload_n hx hb dX0_upperEnd_36 rfl (lv_at hl 1 rfl) ?_
    refine lv_iconst (v := 1) hx hb dX0_upperEnd_37 (by decide) ?_
    refine lv_iadd hx hb dX0_upperEnd_38 ?_
    refine lv_eqi (y := nI (r + 1)) (nI_add _ _) ?_
    refine r_iald hx hb hK hP 7 0 (r + 1) (f := F 6) rfl rfl (by omega) (by omega) dX0_upperEnd_39 ?_
    refine lv_aload_n hx hb dX0_upperEnd_40 rfl (lv_at hl 0 rfl) ?_
    refine va_get (D := D) (ci := 0) (v := .ref h7) (C := RX0) (T := TX0) (N := 7) hx hb hts hinX0 hown hK hP 0 rfl rfl 6 (by decide) (hts (.fieldLink RX0 31 "RibbonBalloons$Flock" "heights" "[I") (by decide +kernel)) (fun _ h9 => h9) rfl dX0_upperEnd_41 ?_
    refine lv_iload_n hx hb dX0_upperEnd_44 rfl (lv_at hl 1 rfl) ?_
    refine r_iald hx hb hK hP 7 0 r (f := F 6) rfl rfl (by omega) (by omega) dX0_upperEnd_45 ?_
    refine lv_icmp_le (tgt := 55) hx hb dX0_upperEnd_46 (by decide) (fun c46 => ?_) (fun c46 => ?_)
    · skip
      refine lv_iload_n hx hb dX0_upperEnd_55 rfl (lv_at hl 1 rfl) ?_
      refine hend _ _ _ _ _ ?_ hP hD hS dX0_upperEnd_56
      unfold upr; first | rw [if_pos c6, if_pos (lt_yes c21)] | rw [if_pos c6, if_neg (lt_no c21)] | rw [if_neg c6, if_pos (lt_yes c46)] | rw [if_neg c6, if_neg (lt_no c46)]
    · skip
      refine lv_iload_n hx hb dX0_upperEnd_49 rfl (lv_at hl 1 rfl) ?_
      refine lv_iconst (v := 1) hx hb dX0_upperEnd_50 (by decide) ?_
      refine lv_iadd hx hb dX0_upperEnd_51 ?_
      refine lv_eqi (y := nI (r + 1)) (nI_add _ _) ?_
      refine lv_goto (tgt := 56) hx hb dX0_upperEnd_52 (by decide) ?_
      refine hend _ _ _ _ _ ?_ hP hD hS dX0_upperEnd_56
      unfold upr; first | rw [if_pos c6, if_pos (lt_yes c21)] | rw [if_pos c6, if_neg (lt_no c21)] | rw [if_neg c6, if_pos (lt_yes c46)] | rw [if_neg c6, if_neg (lt_no c46)]
  · skip
    refine lv_aload_n hx hb dX0_upperEnd_9 rfl (lv_at hl 0 rfl) ?_
    refine lv_iload_n hx hb dX0_upperEnd_10 rfl (lv_at hl 1 rfl) ?_
    refine lv_iconst (v := 1) hx hb dX0_upperEnd_11 (by decide) ?_
    refine lv_iadd hx hb dX0_upperEnd_12 ?_
    refine lv_eqi (y := nI (r + 1)) (nI_add _ _) ?_
    refine kcallV (As := [.int (nI (r + 1))]) (rest := []) (Wn := [flX cI cZ h0 h1 h2 h3 h4 h5 h6 h7 (F 0) (F 1) (F 2) (F 3) (F 4) (F 5) (F 6)]) X (c_X0_wanted l D cI cZ cS cJ h0 h1 h2 h3 h4 h5 h6 h7 F (r + 1) (by omega)) (cwV 1 hts gX0_upperEnd_X0_wanted rfl rfl rfl (by decide +kernel) ⟨Nat.le_of_ble_eq_true rfl, Nat.le_of_ble_eq_true rfl⟩) hK hP hD hS hA [0] rfl (by decide +kernel) rfl rfl rfl 0 0 rfl rfl rfl hl.1 rfl (Nat.le_of_ble_eq_true rfl) dX0_upperEnd_13 ⟨Nat.le_of_ble_eq_true rfl, Nat.le_of_ble_eq_true rfl⟩ (fun H locs hP hD hS => ?_)
    refine lv_aload_n hx hb dX0_upperEnd_16 rfl (lv_at hl 0 rfl) ?_
    refine lv_iload_n hx hb dX0_upperEnd_17 rfl (lv_at hl 1 rfl) ?_
    refine kcallV (As := [.int (nI r)]) (rest := [.int (wt F (r + 1))]) (Wn := [flX cI cZ h0 h1 h2 h3 h4 h5 h6 h7 (F 0) (F 1) (F 2) (F 3) (F 4) (F 5) (F 6)]) X (c_X0_wanted l D cI cZ cS cJ h0 h1 h2 h3 h4 h5 h6 h7 F r (by omega)) (cwV 1 hts gX0_upperEnd_X0_wanted rfl rfl rfl (by decide +kernel) ⟨Nat.le_of_ble_eq_true rfl, Nat.le_of_ble_eq_true rfl⟩) hK hP hD hS hA [0] rfl (by decide +kernel) rfl rfl rfl 0 0 rfl rfl rfl hl.1 rfl (Nat.le_of_ble_eq_true rfl) dX0_upperEnd_18 ⟨Nat.le_of_ble_eq_true rfl, Nat.le_of_ble_eq_true rfl⟩ (fun H locs hP hD hS => ?_)
    refine lv_icmp_le (tgt := 30) hx hb dX0_upperEnd_21 (by decide) (fun c21 => ?_) (fun c21 => ?_)
    · skip
      refine lv_iload_n hx hb dX0_upperEnd_30 rfl (lv_at hl 1 rfl) ?_
      refine hend _ _ _ _ _ ?_ hP hD hS dX0_upperEnd_31
      unfold upr; first | rw [if_pos c6, if_pos (lt_yes c21)] | rw [if_pos c6, if_neg (lt_no c21)] | rw [if_neg c6, if_pos (lt_yes c46)] | rw [if_neg c6, if_neg (lt_no c46)]
    · skip
      refine lv_iload_n hx hb dX0_upperEnd_24 rfl (lv_at hl 1 rfl) ?_
      refine lv_iconst (v := 1) hx hb dX0_upperEnd_25 (by decide) ?_
      refine lv_iadd hx hb dX0_upperEnd_26 ?_
      refine lv_eqi (y := nI (r + 1)) (nI_add _ _) ?_
      refine lv_goto (tgt := 31) hx hb dX0_upperEnd_27 (by decide) ?_
      refine hend _ _ _ _ _ ?_ hP hD hS dX0_upperEnd_31
      unfold upr; first | rw [if_pos c6, if_pos (lt_yes c21)] | rw [if_pos c6, if_neg (lt_no c21)] | rw [if_neg c6, if_pos (lt_yes c46)] | rw [if_neg c6, if_neg (lt_no c46)]

set_option maxHeartbeats 4000000 in
set_option maxRecDepth 100000 in
theorem c_X0_pull (l : Launch) (D : va_G) (cI cZ cS cJ : ClassId) (h0 : Nat) (h1 : Nat) (h2 : Nat) (h3 : Nat) (h4 : Nat) (h5 : Nat) (h6 : Nat) (h7 : Nat) (F : Nat → Nat → Int32) (r : Nat) (hr7 : r < 7) : C0 l yX0_pull wsX0_pull ({ frames := 3, cells := 0, slots := 0, locals := 64 }) D (tyL cI cZ cS cJ) [.ref h0, .int (nI r)] (List.flatten [flX cI cZ h0 h1 h2 h3 h4 h5 h6 h7 (F 0) (F 1) (F 2) (F 3) (F 4) (F 5) (F 6)]) (some (.int (pulC F r))) (List.flatten [flX cI cZ h0 h1 h2 h3 h4 h5 h6 h7 (F 0) (F 1) (F 2) (F 3) (F 4) (F 5) (F 6)]) 0 0 := by
  refine C0_int (cc := cX0_pull) (maxL := 4) (rt := .int) (by decide) rfl (Nat.le_of_ble_eq_true rfl) (rfl) ?_
  intro p e s m below meth c A ls Q X hK hP hD hS hA hl hend
  have X : CallFix p m c cX0_pull 4 s ([.ref h0, .int (nI r)] : List Value).toArray wsX0_pull RX0 := X
  obtain ⟨hx, hb, hml, hown, hts⟩ := id X
  have hl : lv_has ls 4 [(0, .ref h0), (1, .int (nI r))] := hl
  have hinX0 : ∀ w ∈ u_ws RX0 TX0 7, w ∈ wsX0_pull := by decide +kernel
  refine lv_aload_n hx hb dX0_pull_0 rfl (lv_at hl 0 rfl) ?_
  refine va_get (D := D) (ci := 0) (v := .ref h4) (C := RX0) (T := TX0) (N := 7) hx hb hts hinX0 hown hK hP 0 rfl rfl 3 (by decide) (hts (.fieldLink RX0 21 "RibbonBalloons$Flock" "tied" "[Z") (by decide +kernel)) (fun _ h9 => h9) rfl dX0_pull_1 ?_
  refine lv_iload_n hx hb dX0_pull_4 rfl (lv_at hl 1 rfl) ?_
  refine r_zald hx hb hK hP 4 1 r (f := F 3) rfl rfl (by omega) (by omega) dX0_pull_5 ?_
  refine lv_if_ne (tgt := 11) hx hb dX0_pull_6 (by decide) (fun c6 => ?_) (fun c6 => ?_)
  · skip
    refine lv_aload_n hx hb dX0_pull_11 rfl (lv_at hl 0 rfl) ?_
    refine lv_iload_n hx hb dX0_pull_12 rfl (lv_at hl 1 rfl) ?_
    refine kcallV (As := [.int (nI r)]) (rest := []) (Wn := [flX cI cZ h0 h1 h2 h3 h4 h5 h6 h7 (F 0) (F 1) (F 2) (F 3) (F 4) (F 5) (F 6)]) X (c_X0_upperEnd l D cI cZ cS cJ h0 h1 h2 h3 h4 h5 h6 h7 F r (by omega)) (cwV 1 hts gX0_pull_X0_upperEnd rfl rfl rfl (by decide +kernel) ⟨Nat.le_of_ble_eq_true rfl, Nat.le_of_ble_eq_true rfl⟩) hK hP hD hS hA [0] rfl (by decide +kernel) rfl rfl rfl 0 0 rfl rfl rfl hl.1 rfl (Nat.le_of_ble_eq_true rfl) dX0_pull_13 ⟨Nat.le_of_ble_eq_true rfl, Nat.le_of_ble_eq_true rfl⟩ (fun H locs hP hD hS => ?_)
    have hu := upr_le F r
    have hv := upr_in F r
    refine lv_istore_n (lv' := [(2, .int (nI (upr F r))), (0, .ref h0), (1, .int (nI r))]) hx hb dX0_pull_16 rfl hl (by decide) rfl (fun ls hl => ?_)
    refine lv_iload_n hx hb dX0_pull_17 rfl (lv_at hl 0 rfl) ?_
    refine lv_iload_n hx hb dX0_pull_18 rfl (lv_at hl 2 rfl) ?_
    refine n_ne (i := upr F r) (j := r) (tgt := 28) hx hb (by omega) (by omega) dX0_pull_19 (by decide) (fun c19 => ?_) (fun c19 => ?_)
    · skip
      refine lv_iload_n hx hb dX0_pull_28 rfl (lv_at hl 2 rfl) ?_
      refine lv_istore_n (lv' := [(3, .int (nI r)), (2, .int (nI (upr F r))), (0, .ref h0), (1, .int (nI r))]) hx hb dX0_pull_29 rfl hl (by decide) rfl (fun ls hl => ?_)
      refine lv_aload_n hx hb dX0_pull_30 rfl (lv_at hl 2 rfl) ?_
      refine va_get (D := D) (ci := 0) (v := .ref h7) (C := RX0) (T := TX0) (N := 7) hx hb hts hinX0 hown hK hP 0 rfl rfl 6 (by decide) (hts (.fieldLink RX0 31 "RibbonBalloons$Flock" "heights" "[I") (by decide +kernel)) (fun _ h9 => h9) rfl dX0_pull_31 ?_
      refine lv_iload_n hx hb dX0_pull_34 rfl (lv_at hl 1 rfl) ?_
      refine r_iald hx hb hK hP 7 0 (upr F r) (f := F 6) rfl rfl (by omega) (by omega) dX0_pull_35 ?_
      refine lv_aload_n hx hb dX0_pull_36 rfl (lv_at hl 2 rfl) ?_
      refine va_get (D := D) (ci := 0) (v := .ref h7) (C := RX0) (T := TX0) (N := 7) hx hb hts hinX0 hown hK hP 0 rfl rfl 6 (by decide) (hts (.fieldLink RX0 31 "RibbonBalloons$Flock" "heights" "[I") (by decide +kernel)) (fun _ h9 => h9) rfl dX0_pull_37 ?_
      refine lv_iload_n hx hb dX0_pull_40 rfl (lv_at hl 0 rfl) ?_
      refine r_iald hx hb hK hP 7 0 r (f := F 6) rfl rfl (by omega) (by omega) dX0_pull_41 ?_
      refine lv_isub hx hb dX0_pull_42 ?_
      refine lv_aload_n hx hb dX0_pull_43 rfl (lv_at hl 2 rfl) ?_
      refine va_get (D := D) (ci := 0) (v := .ref h5) (C := RX0) (T := TX0) (N := 7) hx hb hts hinX0 hown hK hP 0 rfl rfl 4 (by decide) (hts (.fieldLink RX0 25 "RibbonBalloons$Flock" "lengths" "[I") (by decide +kernel)) (fun _ h9 => h9) rfl dX0_pull_44 ?_
      refine lv_iload_n hx hb dX0_pull_47 rfl (lv_at hl 3 rfl) ?_
      refine r_iald hx hb hK hP 5 0 r (f := F 4) rfl rfl (by omega) (by omega) dX0_pull_48 ?_
      refine lv_icmp_eq (tgt := 54) hx hb dX0_pull_49 (by decide) (fun c49 => ?_) (fun c49 => ?_)
      · skip
        refine lv_aload_n hx hb dX0_pull_54 rfl (lv_at hl 2 rfl) ?_
        refine lv_iload_n hx hb dX0_pull_55 rfl (lv_at hl 1 rfl) ?_
        refine kcallV (As := [.int (nI (upr F r))]) (rest := []) (Wn := [flX cI cZ h0 h1 h2 h3 h4 h5 h6 h7 (F 0) (F 1) (F 2) (F 3) (F 4) (F 5) (F 6)]) X (c_X0_wanted l D cI cZ cS cJ h0 h1 h2 h3 h4 h5 h6 h7 F (upr F r) (by omega)) (cwV 1 hts gX0_pull_X0_wanted rfl rfl rfl (by decide +kernel) ⟨Nat.le_of_ble_eq_true rfl, Nat.le_of_ble_eq_true rfl⟩) hK hP hD hS hA [0] rfl (by decide +kernel) rfl rfl rfl 0 0 rfl rfl rfl hl.1 rfl (Nat.le_of_ble_eq_true rfl) dX0_pull_56 ⟨Nat.le_of_ble_eq_true rfl, Nat.le_of_ble_eq_true rfl⟩ (fun H locs hP hD hS => ?_)
        refine lv_aload_n hx hb dX0_pull_59 rfl (lv_at hl 2 rfl) ?_
        refine va_get (D := D) (ci := 0) (v := .ref h7) (C := RX0) (T := TX0) (N := 7) hx hb hts hinX0 hown hK hP 0 rfl rfl 6 (by decide) (hts (.fieldLink RX0 31 "RibbonBalloons$Flock" "heights" "[I") (by decide +kernel)) (fun _ h9 => h9) rfl dX0_pull_60 ?_
        refine lv_iload_n hx hb dX0_pull_63 rfl (lv_at hl 1 rfl) ?_
        refine r_iald hx hb hK hP 7 0 (upr F r) (f := F 6) rfl rfl (by omega) (by omega) dX0_pull_64 ?_
        refine lv_isub hx hb dX0_pull_65 ?_
        refine hend _ _ _ _ _ ?_ hP hD hS dX0_pull_66
        unfold pulC; first | rw [if_neg c6, if_pos c19, if_pos c49] | rw [if_neg c6, if_neg c19, if_pos c49]
      · skip
        refine lv_iconst (v := 0) hx hb dX0_pull_52 (by decide) ?_
        refine hend _ _ _ _ _ ?_ hP hD hS dX0_pull_53
        unfold pulC; first | rw [if_neg c6, if_pos c19, if_neg c49] | rw [if_neg c6, if_neg c19, if_neg c49]
    · skip
      refine lv_iload_n hx hb dX0_pull_22 rfl (lv_at hl 2 rfl) ?_
      refine lv_iconst (v := 1) hx hb dX0_pull_23 (by decide) ?_
      refine lv_iadd hx hb dX0_pull_24 ?_
      refine lv_eqi (y := nI (r + 1)) (nI_add _ _) ?_
      refine lv_goto (tgt := 29) hx hb dX0_pull_25 (by decide) ?_
      refine lv_istore_n (lv' := [(3, .int (nI (r + 1))), (2, .int (nI (upr F r))), (0, .ref h0), (1, .int (nI r))]) hx hb dX0_pull_29 rfl hl (by decide) rfl (fun ls hl => ?_)
      refine lv_aload_n hx hb dX0_pull_30 rfl (lv_at hl 2 rfl) ?_
      refine va_get (D := D) (ci := 0) (v := .ref h7) (C := RX0) (T := TX0) (N := 7) hx hb hts hinX0 hown hK hP 0 rfl rfl 6 (by decide) (hts (.fieldLink RX0 31 "RibbonBalloons$Flock" "heights" "[I") (by decide +kernel)) (fun _ h9 => h9) rfl dX0_pull_31 ?_
      refine lv_iload_n hx hb dX0_pull_34 rfl (lv_at hl 1 rfl) ?_
      refine r_iald hx hb hK hP 7 0 (upr F r) (f := F 6) rfl rfl (by omega) (by omega) dX0_pull_35 ?_
      refine lv_aload_n hx hb dX0_pull_36 rfl (lv_at hl 2 rfl) ?_
      refine va_get (D := D) (ci := 0) (v := .ref h7) (C := RX0) (T := TX0) (N := 7) hx hb hts hinX0 hown hK hP 0 rfl rfl 6 (by decide) (hts (.fieldLink RX0 31 "RibbonBalloons$Flock" "heights" "[I") (by decide +kernel)) (fun _ h9 => h9) rfl dX0_pull_37 ?_
      refine lv_iload_n hx hb dX0_pull_40 rfl (lv_at hl 0 rfl) ?_
      refine r_iald hx hb hK hP 7 0 (r + 1) (f := F 6) rfl rfl (by omega) (by omega) dX0_pull_41 ?_
      refine lv_isub hx hb dX0_pull_42 ?_
      refine lv_aload_n hx hb dX0_pull_43 rfl (lv_at hl 2 rfl) ?_
      refine va_get (D := D) (ci := 0) (v := .ref h5) (C := RX0) (T := TX0) (N := 7) hx hb hts hinX0 hown hK hP 0 rfl rfl 4 (by decide) (hts (.fieldLink RX0 25 "RibbonBalloons$Flock" "lengths" "[I") (by decide +kernel)) (fun _ h9 => h9) rfl dX0_pull_44 ?_
      refine lv_iload_n hx hb dX0_pull_47 rfl (lv_at hl 3 rfl) ?_
      refine r_iald hx hb hK hP 5 0 r (f := F 4) rfl rfl (by omega) (by omega) dX0_pull_48 ?_
      refine lv_icmp_eq (tgt := 54) hx hb dX0_pull_49 (by decide) (fun c49 => ?_) (fun c49 => ?_)
      · skip
        refine lv_aload_n hx hb dX0_pull_54 rfl (lv_at hl 2 rfl) ?_
        refine lv_iload_n hx hb dX0_pull_55 rfl (lv_at hl 1 rfl) ?_
        refine kcallV (As := [.int (nI (upr F r))]) (rest := []) (Wn := [flX cI cZ h0 h1 h2 h3 h4 h5 h6 h7 (F 0) (F 1) (F 2) (F 3) (F 4) (F 5) (F 6)]) X (c_X0_wanted l D cI cZ cS cJ h0 h1 h2 h3 h4 h5 h6 h7 F (upr F r) (by omega)) (cwV 1 hts gX0_pull_X0_wanted rfl rfl rfl (by decide +kernel) ⟨Nat.le_of_ble_eq_true rfl, Nat.le_of_ble_eq_true rfl⟩) hK hP hD hS hA [0] rfl (by decide +kernel) rfl rfl rfl 0 0 rfl rfl rfl hl.1 rfl (Nat.le_of_ble_eq_true rfl) dX0_pull_56 ⟨Nat.le_of_ble_eq_true rfl, Nat.le_of_ble_eq_true rfl⟩ (fun H locs hP hD hS => ?_)
        refine lv_aload_n hx hb dX0_pull_59 rfl (lv_at hl 2 rfl) ?_
        refine va_get (D := D) (ci := 0) (v := .ref h7) (C := RX0) (T := TX0) (N := 7) hx hb hts hinX0 hown hK hP 0 rfl rfl 6 (by decide) (hts (.fieldLink RX0 31 "RibbonBalloons$Flock" "heights" "[I") (by decide +kernel)) (fun _ h9 => h9) rfl dX0_pull_60 ?_
        refine lv_iload_n hx hb dX0_pull_63 rfl (lv_at hl 1 rfl) ?_
        refine r_iald hx hb hK hP 7 0 (upr F r) (f := F 6) rfl rfl (by omega) (by omega) dX0_pull_64 ?_
        refine lv_isub hx hb dX0_pull_65 ?_
        refine hend _ _ _ _ _ ?_ hP hD hS dX0_pull_66
        unfold pulC; first | rw [if_neg c6, if_pos c19, if_pos c49] | rw [if_neg c6, if_neg c19, if_pos c49]
      · skip
        refine lv_iconst (v := 0) hx hb dX0_pull_52 (by decide) ?_
        refine hend _ _ _ _ _ ?_ hP hD hS dX0_pull_53
        unfold pulC; first | rw [if_neg c6, if_pos c19, if_neg c49] | rw [if_neg c6, if_neg c19, if_neg c49]
  · skip
    refine lv_iconst (v := 0) hx hb dX0_pull_9 (by decide) ?_
    refine hend _ _ _ _ _ ?_ hP hD hS dX0_pull_10
    unfold pulC; rw [if_pos c6]

set_option maxHeartbeats 4000000 in
set_option maxRecDepth 100000 in
theorem c_X0_wouldSnap (l : Launch) (D : va_G) (cI cZ cS cJ : ClassId) (h0 : Nat) (h1 : Nat) (h2 : Nat) (h3 : Nat) (h4 : Nat) (h5 : Nat) (h6 : Nat) (h7 : Nat) (F : Nat → Nat → Int32) (r : Nat) (hr7 : r < 7) : C0 l yX0_wouldSnap wsX0_wouldSnap ({ frames := 4, cells := 0, slots := 0, locals := 87 }) D (tyL cI cZ cS cJ) [.ref h0, .int (nI r)] (List.flatten [flX cI cZ h0 h1 h2 h3 h4 h5 h6 h7 (F 0) (F 1) (F 2) (F 3) (F 4) (F 5) (F 6)]) (some (.int (b1 (F 5 r < pulC F r)))) (List.flatten [flX cI cZ h0 h1 h2 h3 h4 h5 h6 h7 (F 0) (F 1) (F 2) (F 3) (F 4) (F 5) (F 6)]) 0 0 := by
  refine C0_int (cc := cX0_wouldSnap) (maxL := 2) (rt := .boolean) (by decide) rfl (Nat.le_of_ble_eq_true rfl) (nar_b1 _) ?_
  intro p e s m below meth c A ls Q X hK hP hD hS hA hl hend
  have X : CallFix p m c cX0_wouldSnap 2 s ([.ref h0, .int (nI r)] : List Value).toArray wsX0_wouldSnap RX0 := X
  obtain ⟨hx, hb, hml, hown, hts⟩ := id X
  have hl : lv_has ls 2 [(0, .ref h0), (1, .int (nI r))] := hl
  have hinX0 : ∀ w ∈ u_ws RX0 TX0 7, w ∈ wsX0_wouldSnap := by decide +kernel
  refine lv_aload_n hx hb dX0_wouldSnap_0 rfl (lv_at hl 0 rfl) ?_
  refine lv_iload_n hx hb dX0_wouldSnap_1 rfl (lv_at hl 1 rfl) ?_
  refine kcallV (As := [.int (nI r)]) (rest := []) (Wn := [flX cI cZ h0 h1 h2 h3 h4 h5 h6 h7 (F 0) (F 1) (F 2) (F 3) (F 4) (F 5) (F 6)]) X (c_X0_pull l D cI cZ cS cJ h0 h1 h2 h3 h4 h5 h6 h7 F r (by omega)) (cwV 1 hts gX0_wouldSnap_X0_pull rfl rfl rfl (by decide +kernel) ⟨Nat.le_of_ble_eq_true rfl, Nat.le_of_ble_eq_true rfl⟩) hK hP hD hS hA [0] rfl (by decide +kernel) rfl rfl rfl 0 0 rfl rfl rfl hl.1 rfl (Nat.le_of_ble_eq_true rfl) dX0_wouldSnap_2 ⟨Nat.le_of_ble_eq_true rfl, Nat.le_of_ble_eq_true rfl⟩ (fun H locs hP hD hS => ?_)
  refine lv_aload_n hx hb dX0_wouldSnap_5 rfl (lv_at hl 0 rfl) ?_
  refine va_get (D := D) (ci := 0) (v := .ref h6) (C := RX0) (T := TX0) (N := 7) hx hb hts hinX0 hown hK hP 0 rfl rfl 5 (by decide) (hts (.fieldLink RX0 28 "RibbonBalloons$Flock" "bears" "[I") (by decide +kernel)) (fun _ h9 => h9) rfl dX0_wouldSnap_6 ?_
  refine lv_iload_n hx hb dX0_wouldSnap_9 rfl (lv_at hl 1 rfl) ?_
  refine r_iald hx hb hK hP 6 0 r (f := F 5) rfl rfl (by omega) (by omega) dX0_wouldSnap_10 ?_
  refine lv_icmp_le (tgt := 18) hx hb dX0_wouldSnap_11 (by decide) (fun c11 => ?_) (fun c11 => ?_)
  · skip
    refine lv_iconst (v := 0) hx hb dX0_wouldSnap_18 (by decide) ?_
    refine hend _ _ _ _ _ ?_ hP hD hS dX0_wouldSnap_19
    unfold b1; first | rw [if_pos (lt_yes c11)] | rw [if_neg (lt_no c11)]
  · skip
    refine lv_iconst (v := 1) hx hb dX0_wouldSnap_14 (by decide) ?_
    refine lv_goto (tgt := 19) hx hb dX0_wouldSnap_15 (by decide) ?_
    refine hend _ _ _ _ _ ?_ hP hD hS dX0_wouldSnap_19
    unfold b1; first | rw [if_pos (lt_yes c11)] | rw [if_neg (lt_no c11)]

set_option maxHeartbeats 4000000 in
set_option maxRecDepth 100000 in
theorem c_X0_allGas (l : Launch) (D : va_G) (cI cZ cS cJ : ClassId) (h0 : Nat) (h1 : Nat) (h2 : Nat) (h3 : Nat) (h4 : Nat) (h5 : Nat) (h6 : Nat) (h7 : Nat) (F : Nat → Nat → Int32)  : C0 l yX0_allGas wsX0_allGas ({ frames := 0, cells := 0, slots := 0, locals := 0 }) D (tyL cI cZ cS cJ) [.ref h0] (List.flatten [flX cI cZ h0 h1 h2 h3 h4 h5 h6 h7 (F 0) (F 1) (F 2) (F 3) (F 4) (F 5) (F 6)]) (some (.int (sm (F 0) 8))) (List.flatten [flX cI cZ h0 h1 h2 h3 h4 h5 h6 h7 (F 0) (F 1) (F 2) (F 3) (F 4) (F 5) (F 6)]) 0 0 := by
  refine C0_int (cc := cX0_allGas) (maxL := 3) (rt := .int) (by decide) rfl (Nat.le_of_ble_eq_true rfl) (rfl) ?_
  intro p e s m below meth c A ls Q X hK hP hD hS hA hl hend
  have X : CallFix p m c cX0_allGas 3 s ([.ref h0] : List Value).toArray wsX0_allGas RX0 := X
  obtain ⟨hx, hb, hml, hown, hts⟩ := id X
  have hl : lv_has ls 3 [(0, .ref h0)] := hl
  have hinX0 : ∀ w ∈ u_ws RX0 TX0 7, w ∈ wsX0_allGas := by decide +kernel
  refine lv_iconst (v := 0) hx hb dX0_allGas_0 (by decide) ?_
  refine lv_istore_n (lv' := [(1, .int 0), (0, .ref h0)]) hx hb dX0_allGas_1 rfl hl (by decide) rfl (fun ls hl => ?_)
  refine lv_iconst (v := 0) hx hb dX0_allGas_2 (by decide) ?_
  refine lv_istore_n (lv' := [(2, .int 0), (1, .int 0), (0, .ref h0)]) hx hb dX0_allGas_3 rfl hl (by decide) rfl (fun ls hl => ?_)
  have lp_4 : ∀ (nn : Nat) (i : Nat), True → (i ≤ 8) → 8 - i < nn → ∀ (H : Heap) (locs : List Loc) (ls : Array Slot), va_P D vwCl (List.flatten [flX cI cZ h0 h1 h2 h3 h4 h5 h6 h7 (F 0) (F 1) (F 2) (F 3) (F 4) (F 5) (F 6)]) H → va_D A (List.flatten [flX cI cZ h0 h1 h2 h3 h4 h5 h6 h7 (F 0) (F 1) (F 2) (F 3) (F 4) (F 5) (F 6)]) → va_S A s.heap H locs → lv_has ls 3 [(0, .ref h0), (1, .int (sm (F 0) i)), (2, .int (nI i))] → W p l e ({ frames := 0, cells := 0, slots := 0, locals := 0 } : Room) s m ([.ref h0] : List Value).toArray below meth c H locs 0 0 Q (F0 m 4 ls []) := by
    intro nn
    induction nn with
    | zero => intro i _ hi hmz; exact absurd hmz (Nat.not_lt_zero _)
    | succ nn ih =>
      intro i _ hi hms H locs ls hP hD hS hl
      refine lv_iload_n hx hb dX0_allGas_4 rfl (lv_at hl 2 rfl) ?_
      refine lv_bipush (v := 8) hx hb dX0_allGas_5 (by decide) ?_
      refine n_ge (i := i) (j := 8) (tgt := 25) hx hb (by omega) (by omega) dX0_allGas_7 (by decide) (fun c7 => ?_) (fun c7 => ?_)
      · skip
        refine lv_iload_n hx hb dX0_allGas_25 rfl (lv_at hl 1 rfl) ?_
        refine hend _ _ _ _ _ ?_ hP hD hS dX0_allGas_26
        rw [show i = 8 by omega]
      · skip
        refine lv_iload_n hx hb dX0_allGas_10 rfl (lv_at hl 1 rfl) ?_
        refine lv_aload_n hx hb dX0_allGas_11 rfl (lv_at hl 0 rfl) ?_
        refine va_get (D := D) (ci := 0) (v := .ref h1) (C := RX0) (T := TX0) (N := 7) hx hb hts hinX0 hown hK hP 0 rfl rfl 0 (by decide) (hts (.fieldLink RX0 9 "RibbonBalloons$Flock" "gas" "[I") (by decide +kernel)) (fun _ h9 => h9) rfl dX0_allGas_12 ?_
        refine lv_iload_n hx hb dX0_allGas_15 rfl (lv_at hl 2 rfl) ?_
        refine r_iald hx hb hK hP 1 0 i (f := F 0) rfl rfl (by omega) (by omega) dX0_allGas_16 ?_
        refine lv_iadd hx hb dX0_allGas_17 ?_
        refine lv_eqi (y := sm (F 0) (i + 1)) (rfl) ?_
        refine lv_istore_n (lv' := [(1, .int (sm (F 0) (i + 1))), (0, .ref h0), (2, .int (nI i))]) hx hb dX0_allGas_18 rfl hl (by decide) rfl (fun ls hl => ?_)
        refine lv_iinc (v := nI (i + 1)) (lv' := [(2, .int (nI (i + 1))), (1, .int (sm (F 0) (i + 1))), (0, .ref h0)]) hx hb dX0_allGas_19 hl (k := 2) rfl (nI_add _ _) (by decide) rfl (fun ls hl => ?_)
        refine lv_goto (tgt := 4) hx hb dX0_allGas_22 (by decide) ?_
        exact ih  (i + 1) trivial (by omega) (by omega) _ _ _ hP hD hS (lv_sub hl [2, 1, 0] rfl)
  exact lp_4 (8 - 0 + 1) 0 trivial (by omega) (Nat.lt_succ_self _) _ _ _ hP hD hS (lv_sub hl [2, 1, 0] rfl)

set_option maxHeartbeats 4000000 in
set_option maxRecDepth 100000 in
theorem c_X0_allHeights (l : Launch) (D : va_G) (cI cZ cS cJ : ClassId) (h0 : Nat) (h1 : Nat) (h2 : Nat) (h3 : Nat) (h4 : Nat) (h5 : Nat) (h6 : Nat) (h7 : Nat) (F : Nat → Nat → Int32)  : C0 l yX0_allHeights wsX0_allHeights ({ frames := 0, cells := 0, slots := 0, locals := 0 }) D (tyL cI cZ cS cJ) [.ref h0] (List.flatten [flX cI cZ h0 h1 h2 h3 h4 h5 h6 h7 (F 0) (F 1) (F 2) (F 3) (F 4) (F 5) (F 6)]) (some (.int (sm (F 6) 8))) (List.flatten [flX cI cZ h0 h1 h2 h3 h4 h5 h6 h7 (F 0) (F 1) (F 2) (F 3) (F 4) (F 5) (F 6)]) 0 0 := by
  refine C0_int (cc := cX0_allHeights) (maxL := 3) (rt := .int) (by decide) rfl (Nat.le_of_ble_eq_true rfl) (rfl) ?_
  intro p e s m below meth c A ls Q X hK hP hD hS hA hl hend
  have X : CallFix p m c cX0_allHeights 3 s ([.ref h0] : List Value).toArray wsX0_allHeights RX0 := X
  obtain ⟨hx, hb, hml, hown, hts⟩ := id X
  have hl : lv_has ls 3 [(0, .ref h0)] := hl
  have hinX0 : ∀ w ∈ u_ws RX0 TX0 7, w ∈ wsX0_allHeights := by decide +kernel
  refine lv_iconst (v := 0) hx hb dX0_allHeights_0 (by decide) ?_
  refine lv_istore_n (lv' := [(1, .int 0), (0, .ref h0)]) hx hb dX0_allHeights_1 rfl hl (by decide) rfl (fun ls hl => ?_)
  refine lv_iconst (v := 0) hx hb dX0_allHeights_2 (by decide) ?_
  refine lv_istore_n (lv' := [(2, .int 0), (1, .int 0), (0, .ref h0)]) hx hb dX0_allHeights_3 rfl hl (by decide) rfl (fun ls hl => ?_)
  have lp_4 : ∀ (nn : Nat) (i : Nat), True → (i ≤ 8) → 8 - i < nn → ∀ (H : Heap) (locs : List Loc) (ls : Array Slot), va_P D vwCl (List.flatten [flX cI cZ h0 h1 h2 h3 h4 h5 h6 h7 (F 0) (F 1) (F 2) (F 3) (F 4) (F 5) (F 6)]) H → va_D A (List.flatten [flX cI cZ h0 h1 h2 h3 h4 h5 h6 h7 (F 0) (F 1) (F 2) (F 3) (F 4) (F 5) (F 6)]) → va_S A s.heap H locs → lv_has ls 3 [(0, .ref h0), (1, .int (sm (F 6) i)), (2, .int (nI i))] → W p l e ({ frames := 0, cells := 0, slots := 0, locals := 0 } : Room) s m ([.ref h0] : List Value).toArray below meth c H locs 0 0 Q (F0 m 4 ls []) := by
    intro nn
    induction nn with
    | zero => intro i _ hi hmz; exact absurd hmz (Nat.not_lt_zero _)
    | succ nn ih =>
      intro i _ hi hms H locs ls hP hD hS hl
      refine lv_iload_n hx hb dX0_allHeights_4 rfl (lv_at hl 2 rfl) ?_
      refine lv_bipush (v := 8) hx hb dX0_allHeights_5 (by decide) ?_
      refine n_ge (i := i) (j := 8) (tgt := 25) hx hb (by omega) (by omega) dX0_allHeights_7 (by decide) (fun c7 => ?_) (fun c7 => ?_)
      · skip
        refine lv_iload_n hx hb dX0_allHeights_25 rfl (lv_at hl 1 rfl) ?_
        refine hend _ _ _ _ _ ?_ hP hD hS dX0_allHeights_26
        rw [show i = 8 by omega]
      · skip
        refine lv_iload_n hx hb dX0_allHeights_10 rfl (lv_at hl 1 rfl) ?_
        refine lv_aload_n hx hb dX0_allHeights_11 rfl (lv_at hl 0 rfl) ?_
        refine va_get (D := D) (ci := 0) (v := .ref h7) (C := RX0) (T := TX0) (N := 7) hx hb hts hinX0 hown hK hP 0 rfl rfl 6 (by decide) (hts (.fieldLink RX0 31 "RibbonBalloons$Flock" "heights" "[I") (by decide +kernel)) (fun _ h9 => h9) rfl dX0_allHeights_12 ?_
        refine lv_iload_n hx hb dX0_allHeights_15 rfl (lv_at hl 2 rfl) ?_
        refine r_iald hx hb hK hP 7 0 i (f := F 6) rfl rfl (by omega) (by omega) dX0_allHeights_16 ?_
        refine lv_iadd hx hb dX0_allHeights_17 ?_
        refine lv_eqi (y := sm (F 6) (i + 1)) (rfl) ?_
        refine lv_istore_n (lv' := [(1, .int (sm (F 6) (i + 1))), (0, .ref h0), (2, .int (nI i))]) hx hb dX0_allHeights_18 rfl hl (by decide) rfl (fun ls hl => ?_)
        refine lv_iinc (v := nI (i + 1)) (lv' := [(2, .int (nI (i + 1))), (1, .int (sm (F 6) (i + 1))), (0, .ref h0)]) hx hb dX0_allHeights_19 hl (k := 2) rfl (nI_add _ _) (by decide) rfl (fun ls hl => ?_)
        refine lv_goto (tgt := 4) hx hb dX0_allHeights_22 (by decide) ?_
        exact ih  (i + 1) trivial (by omega) (by omega) _ _ _ hP hD hS (lv_sub hl [2, 1, 0] rfl)
  exact lp_4 (8 - 0 + 1) 0 trivial (by omega) (Nat.lt_succ_self _) _ _ _ hP hD hS (lv_sub hl [2, 1, 0] rfl)

set_option maxHeartbeats 4000000 in
set_option maxRecDepth 100000 in
theorem c_X0_tiedRibbons (l : Launch) (D : va_G) (cI cZ cS cJ : ClassId) (h0 : Nat) (h1 : Nat) (h2 : Nat) (h3 : Nat) (h4 : Nat) (h5 : Nat) (h6 : Nat) (h7 : Nat) (F : Nat → Nat → Int32)  : C0 l yX0_tiedRibbons wsX0_tiedRibbons ({ frames := 0, cells := 0, slots := 0, locals := 0 }) D (tyL cI cZ cS cJ) [.ref h0] (List.flatten [flX cI cZ h0 h1 h2 h3 h4 h5 h6 h7 (F 0) (F 1) (F 2) (F 3) (F 4) (F 5) (F 6)]) (some (.int (sm (fun j => b1 (¬ F 3 j = 0)) 7))) (List.flatten [flX cI cZ h0 h1 h2 h3 h4 h5 h6 h7 (F 0) (F 1) (F 2) (F 3) (F 4) (F 5) (F 6)]) 0 0 := by
  refine C0_int (cc := cX0_tiedRibbons) (maxL := 3) (rt := .int) (by decide) rfl (Nat.le_of_ble_eq_true rfl) (rfl) ?_
  intro p e s m below meth c A ls Q X hK hP hD hS hA hl hend
  have X : CallFix p m c cX0_tiedRibbons 3 s ([.ref h0] : List Value).toArray wsX0_tiedRibbons RX0 := X
  obtain ⟨hx, hb, hml, hown, hts⟩ := id X
  have hl : lv_has ls 3 [(0, .ref h0)] := hl
  have hinX0 : ∀ w ∈ u_ws RX0 TX0 7, w ∈ wsX0_tiedRibbons := by decide +kernel
  refine lv_iconst (v := 0) hx hb dX0_tiedRibbons_0 (by decide) ?_
  refine lv_istore_n (lv' := [(1, .int 0), (0, .ref h0)]) hx hb dX0_tiedRibbons_1 rfl hl (by decide) rfl (fun ls hl => ?_)
  refine lv_iconst (v := 0) hx hb dX0_tiedRibbons_2 (by decide) ?_
  refine lv_istore_n (lv' := [(2, .int 0), (1, .int 0), (0, .ref h0)]) hx hb dX0_tiedRibbons_3 rfl hl (by decide) rfl (fun ls hl => ?_)
  have lp_4 : ∀ (nn : Nat) (i : Nat), True → (i ≤ 7) → 7 - i < nn → ∀ (H : Heap) (locs : List Loc) (ls : Array Slot), va_P D vwCl (List.flatten [flX cI cZ h0 h1 h2 h3 h4 h5 h6 h7 (F 0) (F 1) (F 2) (F 3) (F 4) (F 5) (F 6)]) H → va_D A (List.flatten [flX cI cZ h0 h1 h2 h3 h4 h5 h6 h7 (F 0) (F 1) (F 2) (F 3) (F 4) (F 5) (F 6)]) → va_S A s.heap H locs → lv_has ls 3 [(0, .ref h0), (1, .int (sm (fun j => b1 (¬ F 3 j = 0)) i)), (2, .int (nI i))] → W p l e ({ frames := 0, cells := 0, slots := 0, locals := 0 } : Room) s m ([.ref h0] : List Value).toArray below meth c H locs 0 0 Q (F0 m 4 ls []) := by
    intro nn
    induction nn with
    | zero => intro i _ hi hmz; exact absurd hmz (Nat.not_lt_zero _)
    | succ nn ih =>
      intro i _ hi hms H locs ls hP hD hS hl
      refine lv_iload_n hx hb dX0_tiedRibbons_4 rfl (lv_at hl 2 rfl) ?_
      refine lv_bipush (v := 7) hx hb dX0_tiedRibbons_5 (by decide) ?_
      refine n_ge (i := i) (j := 7) (tgt := 33) hx hb (by omega) (by omega) dX0_tiedRibbons_7 (by decide) (fun c7 => ?_) (fun c7 => ?_)
      · skip
        refine lv_iload_n hx hb dX0_tiedRibbons_33 rfl (lv_at hl 1 rfl) ?_
        refine hend _ _ _ _ _ ?_ hP hD hS dX0_tiedRibbons_34
        rw [show i = 7 by omega]
      · skip
        refine lv_iload_n hx hb dX0_tiedRibbons_10 rfl (lv_at hl 1 rfl) ?_
        refine lv_aload_n hx hb dX0_tiedRibbons_11 rfl (lv_at hl 0 rfl) ?_
        refine va_get (D := D) (ci := 0) (v := .ref h4) (C := RX0) (T := TX0) (N := 7) hx hb hts hinX0 hown hK hP 0 rfl rfl 3 (by decide) (hts (.fieldLink RX0 21 "RibbonBalloons$Flock" "tied" "[Z") (by decide +kernel)) (fun _ h9 => h9) rfl dX0_tiedRibbons_12 ?_
        refine lv_iload_n hx hb dX0_tiedRibbons_15 rfl (lv_at hl 2 rfl) ?_
        refine r_zald hx hb hK hP 4 1 i (f := F 3) rfl rfl (by omega) (by omega) dX0_tiedRibbons_16 ?_
        refine lv_if_eq (tgt := 24) hx hb dX0_tiedRibbons_17 (by decide) (fun c17 => ?_) (fun c17 => ?_)
        · skip
          refine lv_iconst (v := 0) hx hb dX0_tiedRibbons_24 (by decide) ?_
          refine lv_iadd hx hb dX0_tiedRibbons_25 ?_
          refine lv_eqi (y := sm (fun j => b1 (¬ F 3 j = 0)) (i + 1)) (by first | exact sm_p (p := fun j => ¬ F 3 j = 0) c17 | exact sm_z (p := fun j => ¬ F 3 j = 0) c17 | exact sm_z (p := fun j => ¬ F 3 j = 0) (not_not_intro c17)) ?_
          refine lv_istore_n (lv' := [(1, .int (sm (fun j => b1 (¬ F 3 j = 0)) (i + 1))), (0, .ref h0), (2, .int (nI i))]) hx hb dX0_tiedRibbons_26 rfl hl (by decide) rfl (fun ls hl => ?_)
          refine lv_iinc (v := nI (i + 1)) (lv' := [(2, .int (nI (i + 1))), (1, .int (sm (fun j => b1 (¬ F 3 j = 0)) (i + 1))), (0, .ref h0)]) hx hb dX0_tiedRibbons_27 hl (k := 2) rfl (nI_add _ _) (by decide) rfl (fun ls hl => ?_)
          refine lv_goto (tgt := 4) hx hb dX0_tiedRibbons_30 (by decide) ?_
          exact ih  (i + 1) trivial (by omega) (by omega) _ _ _ hP hD hS (lv_sub hl [2, 1, 0] rfl)
        · skip
          refine lv_iconst (v := 1) hx hb dX0_tiedRibbons_20 (by decide) ?_
          refine lv_goto (tgt := 25) hx hb dX0_tiedRibbons_21 (by decide) ?_
          refine lv_iadd hx hb dX0_tiedRibbons_25 ?_
          refine lv_eqi (y := sm (fun j => b1 (¬ F 3 j = 0)) (i + 1)) (by first | exact sm_p (p := fun j => ¬ F 3 j = 0) c17 | exact sm_z (p := fun j => ¬ F 3 j = 0) c17 | exact sm_z (p := fun j => ¬ F 3 j = 0) (not_not_intro c17)) ?_
          refine lv_istore_n (lv' := [(1, .int (sm (fun j => b1 (¬ F 3 j = 0)) (i + 1))), (0, .ref h0), (2, .int (nI i))]) hx hb dX0_tiedRibbons_26 rfl hl (by decide) rfl (fun ls hl => ?_)
          refine lv_iinc (v := nI (i + 1)) (lv' := [(2, .int (nI (i + 1))), (1, .int (sm (fun j => b1 (¬ F 3 j = 0)) (i + 1))), (0, .ref h0)]) hx hb dX0_tiedRibbons_27 hl (k := 2) rfl (nI_add _ _) (by decide) rfl (fun ls hl => ?_)
          refine lv_goto (tgt := 4) hx hb dX0_tiedRibbons_30 (by decide) ?_
          exact ih  (i + 1) trivial (by omega) (by omega) _ _ _ hP hD hS (lv_sub hl [2, 1, 0] rfl)
  exact lp_4 (7 - 0 + 1) 0 trivial (by omega) (Nat.lt_succ_self _) _ _ _ hP hD hS (lv_sub hl [2, 1, 0] rfl)

set_option maxHeartbeats 4000000 in
set_option maxRecDepth 100000 in
theorem c_X0_grounded (l : Launch) (D : va_G) (cI cZ cS cJ : ClassId) (h0 : Nat) (h1 : Nat) (h2 : Nat) (h3 : Nat) (h4 : Nat) (h5 : Nat) (h6 : Nat) (h7 : Nat) (F : Nat → Nat → Int32)  : C0 l yX0_grounded wsX0_grounded ({ frames := 0, cells := 0, slots := 0, locals := 0 }) D (tyL cI cZ cS cJ) [.ref h0] (List.flatten [flX cI cZ h0 h1 h2 h3 h4 h5 h6 h7 (F 0) (F 1) (F 2) (F 3) (F 4) (F 5) (F 6)]) (some (.int (sm (fun j => b1 (F 6 j = 0)) 8))) (List.flatten [flX cI cZ h0 h1 h2 h3 h4 h5 h6 h7 (F 0) (F 1) (F 2) (F 3) (F 4) (F 5) (F 6)]) 0 0 := by
  refine C0_int (cc := cX0_grounded) (maxL := 3) (rt := .int) (by decide) rfl (Nat.le_of_ble_eq_true rfl) (rfl) ?_
  intro p e s m below meth c A ls Q X hK hP hD hS hA hl hend
  have X : CallFix p m c cX0_grounded 3 s ([.ref h0] : List Value).toArray wsX0_grounded RX0 := X
  obtain ⟨hx, hb, hml, hown, hts⟩ := id X
  have hl : lv_has ls 3 [(0, .ref h0)] := hl
  have hinX0 : ∀ w ∈ u_ws RX0 TX0 7, w ∈ wsX0_grounded := by decide +kernel
  refine lv_iconst (v := 0) hx hb dX0_grounded_0 (by decide) ?_
  refine lv_istore_n (lv' := [(1, .int 0), (0, .ref h0)]) hx hb dX0_grounded_1 rfl hl (by decide) rfl (fun ls hl => ?_)
  refine lv_iconst (v := 0) hx hb dX0_grounded_2 (by decide) ?_
  refine lv_istore_n (lv' := [(2, .int 0), (1, .int 0), (0, .ref h0)]) hx hb dX0_grounded_3 rfl hl (by decide) rfl (fun ls hl => ?_)
  have lp_4 : ∀ (nn : Nat) (i : Nat), True → (i ≤ 8) → 8 - i < nn → ∀ (H : Heap) (locs : List Loc) (ls : Array Slot), va_P D vwCl (List.flatten [flX cI cZ h0 h1 h2 h3 h4 h5 h6 h7 (F 0) (F 1) (F 2) (F 3) (F 4) (F 5) (F 6)]) H → va_D A (List.flatten [flX cI cZ h0 h1 h2 h3 h4 h5 h6 h7 (F 0) (F 1) (F 2) (F 3) (F 4) (F 5) (F 6)]) → va_S A s.heap H locs → lv_has ls 3 [(0, .ref h0), (1, .int (sm (fun j => b1 (F 6 j = 0)) i)), (2, .int (nI i))] → W p l e ({ frames := 0, cells := 0, slots := 0, locals := 0 } : Room) s m ([.ref h0] : List Value).toArray below meth c H locs 0 0 Q (F0 m 4 ls []) := by
    intro nn
    induction nn with
    | zero => intro i _ hi hmz; exact absurd hmz (Nat.not_lt_zero _)
    | succ nn ih =>
      intro i _ hi hms H locs ls hP hD hS hl
      refine lv_iload_n hx hb dX0_grounded_4 rfl (lv_at hl 2 rfl) ?_
      refine lv_bipush (v := 8) hx hb dX0_grounded_5 (by decide) ?_
      refine n_ge (i := i) (j := 8) (tgt := 33) hx hb (by omega) (by omega) dX0_grounded_7 (by decide) (fun c7 => ?_) (fun c7 => ?_)
      · skip
        refine lv_iload_n hx hb dX0_grounded_33 rfl (lv_at hl 1 rfl) ?_
        refine hend _ _ _ _ _ ?_ hP hD hS dX0_grounded_34
        rw [show i = 8 by omega]
      · skip
        refine lv_iload_n hx hb dX0_grounded_10 rfl (lv_at hl 1 rfl) ?_
        refine lv_aload_n hx hb dX0_grounded_11 rfl (lv_at hl 0 rfl) ?_
        refine va_get (D := D) (ci := 0) (v := .ref h7) (C := RX0) (T := TX0) (N := 7) hx hb hts hinX0 hown hK hP 0 rfl rfl 6 (by decide) (hts (.fieldLink RX0 31 "RibbonBalloons$Flock" "heights" "[I") (by decide +kernel)) (fun _ h9 => h9) rfl dX0_grounded_12 ?_
        refine lv_iload_n hx hb dX0_grounded_15 rfl (lv_at hl 2 rfl) ?_
        refine r_iald hx hb hK hP 7 0 i (f := F 6) rfl rfl (by omega) (by omega) dX0_grounded_16 ?_
        refine lv_if_ne (tgt := 24) hx hb dX0_grounded_17 (by decide) (fun c17 => ?_) (fun c17 => ?_)
        · skip
          refine lv_iconst (v := 0) hx hb dX0_grounded_24 (by decide) ?_
          refine lv_iadd hx hb dX0_grounded_25 ?_
          refine lv_eqi (y := sm (fun j => b1 (F 6 j = 0)) (i + 1)) (by first | exact sm_p (p := fun j => F 6 j = 0) c17 | exact sm_z (p := fun j => F 6 j = 0) c17 | exact sm_z (p := fun j => F 6 j = 0) (not_not_intro c17)) ?_
          refine lv_istore_n (lv' := [(1, .int (sm (fun j => b1 (F 6 j = 0)) (i + 1))), (0, .ref h0), (2, .int (nI i))]) hx hb dX0_grounded_26 rfl hl (by decide) rfl (fun ls hl => ?_)
          refine lv_iinc (v := nI (i + 1)) (lv' := [(2, .int (nI (i + 1))), (1, .int (sm (fun j => b1 (F 6 j = 0)) (i + 1))), (0, .ref h0)]) hx hb dX0_grounded_27 hl (k := 2) rfl (nI_add _ _) (by decide) rfl (fun ls hl => ?_)
          refine lv_goto (tgt := 4) hx hb dX0_grounded_30 (by decide) ?_
          exact ih  (i + 1) trivial (by omega) (by omega) _ _ _ hP hD hS (lv_sub hl [2, 1, 0] rfl)
        · skip
          refine lv_iconst (v := 1) hx hb dX0_grounded_20 (by decide) ?_
          refine lv_goto (tgt := 25) hx hb dX0_grounded_21 (by decide) ?_
          refine lv_iadd hx hb dX0_grounded_25 ?_
          refine lv_eqi (y := sm (fun j => b1 (F 6 j = 0)) (i + 1)) (by first | exact sm_p (p := fun j => F 6 j = 0) c17 | exact sm_z (p := fun j => F 6 j = 0) c17 | exact sm_z (p := fun j => F 6 j = 0) (not_not_intro c17)) ?_
          refine lv_istore_n (lv' := [(1, .int (sm (fun j => b1 (F 6 j = 0)) (i + 1))), (0, .ref h0), (2, .int (nI i))]) hx hb dX0_grounded_26 rfl hl (by decide) rfl (fun ls hl => ?_)
          refine lv_iinc (v := nI (i + 1)) (lv' := [(2, .int (nI (i + 1))), (1, .int (sm (fun j => b1 (F 6 j = 0)) (i + 1))), (0, .ref h0)]) hx hb dX0_grounded_27 hl (k := 2) rfl (nI_add _ _) (by decide) rfl (fun ls hl => ?_)
          refine lv_goto (tgt := 4) hx hb dX0_grounded_30 (by decide) ?_
          exact ih  (i + 1) trivial (by omega) (by omega) _ _ _ hP hD hS (lv_sub hl [2, 1, 0] rfl)
  exact lp_4 (8 - 0 + 1) 0 trivial (by omega) (Nat.lt_succ_self _) _ _ _ hP hD hS (lv_sub hl [2, 1, 0] rfl)

set_option maxHeartbeats 4000000 in
set_option maxRecDepth 100000 in
theorem c_X0_ribbonsThatWouldSnap (l : Launch) (D : va_G) (cI cZ cS cJ : ClassId) (h0 : Nat) (h1 : Nat) (h2 : Nat) (h3 : Nat) (h4 : Nat) (h5 : Nat) (h6 : Nat) (h7 : Nat) (F : Nat → Nat → Int32)  : C0 l yX0_ribbonsThatWouldSnap wsX0_ribbonsThatWouldSnap ({ frames := 5, cells := 0, slots := 0, locals := 108 }) D (tyL cI cZ cS cJ) [.ref h0] (List.flatten [flX cI cZ h0 h1 h2 h3 h4 h5 h6 h7 (F 0) (F 1) (F 2) (F 3) (F 4) (F 5) (F 6)]) (some (.int (sm (fun j => b1 (F 5 j < pulC F j)) 7))) (List.flatten [flX cI cZ h0 h1 h2 h3 h4 h5 h6 h7 (F 0) (F 1) (F 2) (F 3) (F 4) (F 5) (F 6)]) 0 0 := by
  refine C0_int (cc := cX0_ribbonsThatWouldSnap) (maxL := 3) (rt := .int) (by decide) rfl (Nat.le_of_ble_eq_true rfl) (rfl) ?_
  intro p e s m below meth c A ls Q X hK hP hD hS hA hl hend
  have X : CallFix p m c cX0_ribbonsThatWouldSnap 3 s ([.ref h0] : List Value).toArray wsX0_ribbonsThatWouldSnap RX0 := X
  obtain ⟨hx, hb, hml, hown, hts⟩ := id X
  have hl : lv_has ls 3 [(0, .ref h0)] := hl
  refine lv_iconst (v := 0) hx hb dX0_ribbonsThatWouldSnap_0 (by decide) ?_
  refine lv_istore_n (lv' := [(1, .int 0), (0, .ref h0)]) hx hb dX0_ribbonsThatWouldSnap_1 rfl hl (by decide) rfl (fun ls hl => ?_)
  refine lv_iconst (v := 0) hx hb dX0_ribbonsThatWouldSnap_2 (by decide) ?_
  refine lv_istore_n (lv' := [(2, .int 0), (1, .int 0), (0, .ref h0)]) hx hb dX0_ribbonsThatWouldSnap_3 rfl hl (by decide) rfl (fun ls hl => ?_)
  have lp_4 : ∀ (nn : Nat) (i : Nat), True → (i ≤ 7) → 7 - i < nn → ∀ (H : Heap) (locs : List Loc) (ls : Array Slot), va_P D vwCl (List.flatten [flX cI cZ h0 h1 h2 h3 h4 h5 h6 h7 (F 0) (F 1) (F 2) (F 3) (F 4) (F 5) (F 6)]) H → va_D A (List.flatten [flX cI cZ h0 h1 h2 h3 h4 h5 h6 h7 (F 0) (F 1) (F 2) (F 3) (F 4) (F 5) (F 6)]) → va_S A s.heap H locs → lv_has ls 3 [(0, .ref h0), (1, .int (sm (fun j => b1 (F 5 j < pulC F j)) i)), (2, .int (nI i))] → W p l e ({ frames := 5, cells := 0, slots := 0, locals := 108 } : Room) s m ([.ref h0] : List Value).toArray below meth c H locs 0 0 Q (F0 m 4 ls []) := by
    intro nn
    induction nn with
    | zero => intro i _ hi hmz; exact absurd hmz (Nat.not_lt_zero _)
    | succ nn ih =>
      intro i _ hi hms H locs ls hP hD hS hl
      refine lv_iload_n hx hb dX0_ribbonsThatWouldSnap_4 rfl (lv_at hl 2 rfl) ?_
      refine lv_bipush (v := 7) hx hb dX0_ribbonsThatWouldSnap_5 (by decide) ?_
      refine n_ge (i := i) (j := 7) (tgt := 32) hx hb (by omega) (by omega) dX0_ribbonsThatWouldSnap_7 (by decide) (fun c7 => ?_) (fun c7 => ?_)
      · skip
        refine lv_iload_n hx hb dX0_ribbonsThatWouldSnap_32 rfl (lv_at hl 1 rfl) ?_
        refine hend _ _ _ _ _ ?_ hP hD hS dX0_ribbonsThatWouldSnap_33
        rw [show i = 7 by omega]
      · skip
        refine lv_iload_n hx hb dX0_ribbonsThatWouldSnap_10 rfl (lv_at hl 1 rfl) ?_
        refine lv_aload_n hx hb dX0_ribbonsThatWouldSnap_11 rfl (lv_at hl 0 rfl) ?_
        refine lv_iload_n hx hb dX0_ribbonsThatWouldSnap_12 rfl (lv_at hl 2 rfl) ?_
        refine kcallV (As := [.int (nI i)]) (rest := [.int (sm (fun j => b1 (F 5 j < pulC F j)) i)]) (Wn := [flX cI cZ h0 h1 h2 h3 h4 h5 h6 h7 (F 0) (F 1) (F 2) (F 3) (F 4) (F 5) (F 6)]) X (c_X0_wouldSnap l D cI cZ cS cJ h0 h1 h2 h3 h4 h5 h6 h7 F i (by omega)) (cwV 1 hts gX0_ribbonsThatWouldSnap_X0_wouldSnap rfl rfl rfl (by decide +kernel) ⟨Nat.le_of_ble_eq_true rfl, Nat.le_of_ble_eq_true rfl⟩) hK hP hD hS hA [0] rfl (by decide +kernel) rfl rfl rfl 0 0 rfl rfl rfl hl.1 rfl (Nat.le_of_ble_eq_true rfl) dX0_ribbonsThatWouldSnap_13 ⟨Nat.le_of_ble_eq_true rfl, Nat.le_of_ble_eq_true rfl⟩ (fun H locs hP hD hS => ?_)
        refine lv_if_eq (tgt := 23) hx hb dX0_ribbonsThatWouldSnap_16 (by decide) (fun c16 => ?_) (fun c16 => ?_)
        · skip
          refine lv_iconst (v := 0) hx hb dX0_ribbonsThatWouldSnap_23 (by decide) ?_
          refine lv_iadd hx hb dX0_ribbonsThatWouldSnap_24 ?_
          refine lv_eqi (y := sm (fun j => b1 (F 5 j < pulC F j)) (i + 1)) (by first | exact sm_b1p (p := fun j => F 5 j < pulC F j) c16 | exact sm_b1z (p := fun j => F 5 j < pulC F j) c16) ?_
          refine lv_istore_n (lv' := [(1, .int (sm (fun j => b1 (F 5 j < pulC F j)) (i + 1))), (0, .ref h0), (2, .int (nI i))]) hx hb dX0_ribbonsThatWouldSnap_25 rfl hl (by decide) rfl (fun ls hl => ?_)
          refine lv_iinc (v := nI (i + 1)) (lv' := [(2, .int (nI (i + 1))), (1, .int (sm (fun j => b1 (F 5 j < pulC F j)) (i + 1))), (0, .ref h0)]) hx hb dX0_ribbonsThatWouldSnap_26 hl (k := 2) rfl (nI_add _ _) (by decide) rfl (fun ls hl => ?_)
          refine lv_goto (tgt := 4) hx hb dX0_ribbonsThatWouldSnap_29 (by decide) ?_
          exact ih  (i + 1) trivial (by omega) (by omega) _ _ _ hP hD hS (lv_sub hl [2, 1, 0] rfl)
        · skip
          refine lv_iconst (v := 1) hx hb dX0_ribbonsThatWouldSnap_19 (by decide) ?_
          refine lv_goto (tgt := 24) hx hb dX0_ribbonsThatWouldSnap_20 (by decide) ?_
          refine lv_iadd hx hb dX0_ribbonsThatWouldSnap_24 ?_
          refine lv_eqi (y := sm (fun j => b1 (F 5 j < pulC F j)) (i + 1)) (by first | exact sm_b1p (p := fun j => F 5 j < pulC F j) c16 | exact sm_b1z (p := fun j => F 5 j < pulC F j) c16) ?_
          refine lv_istore_n (lv' := [(1, .int (sm (fun j => b1 (F 5 j < pulC F j)) (i + 1))), (0, .ref h0), (2, .int (nI i))]) hx hb dX0_ribbonsThatWouldSnap_25 rfl hl (by decide) rfl (fun ls hl => ?_)
          refine lv_iinc (v := nI (i + 1)) (lv' := [(2, .int (nI (i + 1))), (1, .int (sm (fun j => b1 (F 5 j < pulC F j)) (i + 1))), (0, .ref h0)]) hx hb dX0_ribbonsThatWouldSnap_26 hl (k := 2) rfl (nI_add _ _) (by decide) rfl (fun ls hl => ?_)
          refine lv_goto (tgt := 4) hx hb dX0_ribbonsThatWouldSnap_29 (by decide) ?_
          exact ih  (i + 1) trivial (by omega) (by omega) _ _ _ hP hD hS (lv_sub hl [2, 1, 0] rfl)
  exact lp_4 (7 - 0 + 1) 0 trivial (by omega) (Nat.lt_succ_self _) _ _ _ hP hD hS (lv_sub hl [2, 1, 0] rfl)

set_option maxHeartbeats 4000000 in
set_option maxRecDepth 100000 in
theorem c_X0_highest (l : Launch) (D : va_G) (cI cZ cS cJ : ClassId) (h0 : Nat) (h1 : Nat) (h2 : Nat) (h3 : Nat) (h4 : Nat) (h5 : Nat) (h6 : Nat) (h7 : Nat) (F : Nat → Nat → Int32)  : C0 l yX0_highest wsX0_highest ({ frames := 0, cells := 0, slots := 0, locals := 0 }) D (tyL cI cZ cS cJ) [.ref h0] (List.flatten [flX cI cZ h0 h1 h2 h3 h4 h5 h6 h7 (F 0) (F 1) (F 2) (F 3) (F 4) (F 5) (F 6)]) (some (.int (nI (hiN (F 6) 7)))) (List.flatten [flX cI cZ h0 h1 h2 h3 h4 h5 h6 h7 (F 0) (F 1) (F 2) (F 3) (F 4) (F 5) (F 6)]) 0 0 := by
  refine C0_int (cc := cX0_highest) (maxL := 3) (rt := .int) (by decide) rfl (Nat.le_of_ble_eq_true rfl) (rfl) ?_
  intro p e s m below meth c A ls Q X hK hP hD hS hA hl hend
  have X : CallFix p m c cX0_highest 3 s ([.ref h0] : List Value).toArray wsX0_highest RX0 := X
  obtain ⟨hx, hb, hml, hown, hts⟩ := id X
  have hl : lv_has ls 3 [(0, .ref h0)] := hl
  have hinX0 : ∀ w ∈ u_ws RX0 TX0 7, w ∈ wsX0_highest := by decide +kernel
  refine lv_iconst (v := 0) hx hb dX0_highest_0 (by decide) ?_
  refine lv_istore_n (lv' := [(1, .int 0), (0, .ref h0)]) hx hb dX0_highest_1 rfl hl (by decide) rfl (fun ls hl => ?_)
  refine lv_iconst (v := 1) hx hb dX0_highest_2 (by decide) ?_
  refine lv_istore_n (lv' := [(2, .int 1), (1, .int 0), (0, .ref h0)]) hx hb dX0_highest_3 rfl hl (by decide) rfl (fun ls hl => ?_)
  have lp_4 : ∀ (nn : Nat) (i : Nat), True → (i ≤ 8) → (1 ≤ i) → 8 - i < nn → ∀ (H : Heap) (locs : List Loc) (ls : Array Slot), va_P D vwCl (List.flatten [flX cI cZ h0 h1 h2 h3 h4 h5 h6 h7 (F 0) (F 1) (F 2) (F 3) (F 4) (F 5) (F 6)]) H → va_D A (List.flatten [flX cI cZ h0 h1 h2 h3 h4 h5 h6 h7 (F 0) (F 1) (F 2) (F 3) (F 4) (F 5) (F 6)]) → va_S A s.heap H locs → lv_has ls 3 [(0, .ref h0), (1, .int (nI (hiN (F 6) (i - 1)))), (2, .int (nI i))] → W p l e ({ frames := 0, cells := 0, slots := 0, locals := 0 } : Room) s m ([.ref h0] : List Value).toArray below meth c H locs 0 0 Q (F0 m 4 ls []) := by
    intro nn
    induction nn with
    | zero => intro i _ hi hi1 hmz; exact absurd hmz (Nat.not_lt_zero _)
    | succ nn ih =>
      intro i _ hi hi1 hms H locs ls hP hD hS hl
      refine lv_iload_n hx hb dX0_highest_4 rfl (lv_at hl 2 rfl) ?_
      refine lv_bipush (v := 8) hx hb dX0_highest_5 (by decide) ?_
      refine n_ge (i := i) (j := 8) (tgt := 37) hx hb (by omega) (by omega) dX0_highest_7 (by decide) (fun c7 => ?_) (fun c7 => ?_)
      · skip
        refine lv_iload_n hx hb dX0_highest_37 rfl (lv_at hl 1 rfl) ?_
        refine hend _ _ _ _ _ ?_ hP hD hS dX0_highest_38
        rw [show i = 8 by omega]
      · skip
        have hle := hiN_le (F 6) (i - 1)
        refine lv_aload_n hx hb dX0_highest_10 rfl (lv_at hl 0 rfl) ?_
        refine va_get (D := D) (ci := 0) (v := .ref h7) (C := RX0) (T := TX0) (N := 7) hx hb hts hinX0 hown hK hP 0 rfl rfl 6 (by decide) (hts (.fieldLink RX0 31 "RibbonBalloons$Flock" "heights" "[I") (by decide +kernel)) (fun _ h9 => h9) rfl dX0_highest_11 ?_
        refine lv_iload_n hx hb dX0_highest_14 rfl (lv_at hl 2 rfl) ?_
        refine r_iald hx hb hK hP 7 0 i (f := F 6) rfl rfl (by omega) (by omega) dX0_highest_15 ?_
        refine lv_aload_n hx hb dX0_highest_16 rfl (lv_at hl 0 rfl) ?_
        refine va_get (D := D) (ci := 0) (v := .ref h7) (C := RX0) (T := TX0) (N := 7) hx hb hts hinX0 hown hK hP 0 rfl rfl 6 (by decide) (hts (.fieldLink RX0 31 "RibbonBalloons$Flock" "heights" "[I") (by decide +kernel)) (fun _ h9 => h9) rfl dX0_highest_17 ?_
        refine lv_iload_n hx hb dX0_highest_20 rfl (lv_at hl 1 rfl) ?_
        refine r_iald hx hb hK hP 7 0 (hiN (F 6) (i - 1)) (f := F 6) rfl rfl (by omega) (by omega) dX0_highest_21 ?_
        refine lv_icmp_le (tgt := 29) hx hb dX0_highest_22 (by decide) (fun c22 => ?_) (fun c22 => ?_)
        · skip
          refine lv_iload_n hx hb dX0_highest_29 rfl (lv_at hl 1 rfl) ?_
          refine lv_eqi (y := nI (hiN (F 6) (i + 1 - 1))) (by rw [Nat.add_sub_cancel, hiN_step (F 6) hi1]; first | rw [if_pos (lt_yes c22)] | rw [if_neg (lt_no c22)]) ?_
          refine lv_istore_n (lv' := [(1, .int (nI (hiN (F 6) (i + 1 - 1)))), (0, .ref h0), (2, .int (nI i))]) hx hb dX0_highest_30 rfl hl (by decide) rfl (fun ls hl => ?_)
          refine lv_iinc (v := nI (i + 1)) (lv' := [(2, .int (nI (i + 1))), (1, .int (nI (hiN (F 6) (i + 1 - 1)))), (0, .ref h0)]) hx hb dX0_highest_31 hl (k := 2) rfl (nI_add _ _) (by decide) rfl (fun ls hl => ?_)
          refine lv_goto (tgt := 4) hx hb dX0_highest_34 (by decide) ?_
          exact ih  (i + 1) trivial (by omega) (by omega) (by omega) _ _ _ hP hD hS (lv_sub hl [2, 1, 0] rfl)
        · skip
          refine lv_iload_n hx hb dX0_highest_25 rfl (lv_at hl 2 rfl) ?_
          refine lv_goto (tgt := 30) hx hb dX0_highest_26 (by decide) ?_
          refine lv_eqi (y := nI (hiN (F 6) (i + 1 - 1))) (by rw [Nat.add_sub_cancel, hiN_step (F 6) hi1]; first | rw [if_pos (lt_yes c22)] | rw [if_neg (lt_no c22)]) ?_
          refine lv_istore_n (lv' := [(1, .int (nI (hiN (F 6) (i + 1 - 1)))), (0, .ref h0), (2, .int (nI i))]) hx hb dX0_highest_30 rfl hl (by decide) rfl (fun ls hl => ?_)
          refine lv_iinc (v := nI (i + 1)) (lv' := [(2, .int (nI (i + 1))), (1, .int (nI (hiN (F 6) (i + 1 - 1)))), (0, .ref h0)]) hx hb dX0_highest_31 hl (k := 2) rfl (nI_add _ _) (by decide) rfl (fun ls hl => ?_)
          refine lv_goto (tgt := 4) hx hb dX0_highest_34 (by decide) ?_
          exact ih  (i + 1) trivial (by omega) (by omega) (by omega) _ _ _ hP hD hS (lv_sub hl [2, 1, 0] rfl)
  exact lp_4 (8 - 1 + 1) 1 trivial (by omega) (by omega) (Nat.lt_succ_self _) _ _ _ hP hD hS (lv_sub hl [2, 1, 0] rfl)

set_option maxHeartbeats 4000000 in
set_option maxRecDepth 100000 in
theorem c_X0_leakHour (l : Launch) (D : va_G) (cI cZ cS cJ : ClassId) (h0 : Nat) (h1 : Nat) (h2 : Nat) (h3 : Nat) (h4 : Nat) (h5 : Nat) (h6 : Nat) (h7 : Nat) (F : Nat → Nat → Int32)  : C0 l yX0_leakHour wsX0_leakHour ({ frames := 3, cells := 0, slots := 0, locals := 65 }) D (tyL cI cZ cS cJ) [.ref h0] (List.flatten [flX cI cZ h0 h1 h2 h3 h4 h5 h6 h7 (F 0) (F 1) (F 2) (F 3) (F 4) (F 5) (F 6)]) (some (.int (sm (lks F) 8))) (List.flatten [flX cI cZ h0 h1 h2 h3 h4 h5 h6 h7 (lkg F) (F 1) (F 2) (F 3) (F 4) (F 5) (ht (uR F 0 (lkg F)))]) 0 0 := by
  refine C0_int (cc := cX0_leakHour) (maxL := 4) (rt := .int) (by decide) rfl (Nat.le_of_ble_eq_true rfl) (rfl) ?_
  intro p e s m below meth c A ls Q X hK hP hD hS hA hl hend
  have X : CallFix p m c cX0_leakHour 4 s ([.ref h0] : List Value).toArray wsX0_leakHour RX0 := X
  obtain ⟨hx, hb, hml, hown, hts⟩ := id X
  have hl : lv_has ls 4 [(0, .ref h0)] := hl
  have hinX0 : ∀ w ∈ u_ws RX0 TX0 7, w ∈ wsX0_leakHour := by decide +kernel
  refine lv_iconst (v := 0) hx hb dX0_leakHour_0 (by decide) ?_
  refine lv_istore_n (lv' := [(1, .int 0), (0, .ref h0)]) hx hb dX0_leakHour_1 rfl hl (by decide) rfl (fun ls hl => ?_)
  refine lv_iconst (v := 0) hx hb dX0_leakHour_2 (by decide) ?_
  refine lv_istore_n (lv' := [(2, .int 0), (1, .int 0), (0, .ref h0)]) hx hb dX0_leakHour_3 rfl hl (by decide) rfl (fun ls hl => ?_)
  have lp_4 : ∀ (nn : Nat) (i : Nat), True → (i ≤ 8) → 8 - i < nn → ∀ (H : Heap) (locs : List Loc) (ls : Array Slot), va_P D vwCl (List.flatten [flX cI cZ h0 h1 h2 h3 h4 h5 h6 h7 (lkw F i) (F 1) (F 2) (F 3) (F 4) (F 5) (F 6)]) H → va_D A (List.flatten [flX cI cZ h0 h1 h2 h3 h4 h5 h6 h7 (lkw F i) (F 1) (F 2) (F 3) (F 4) (F 5) (F 6)]) → va_S A s.heap H locs → lv_has ls 4 [(0, .ref h0), (1, .int (sm (lks F) i)), (2, .int (nI i))] → W p l e ({ frames := 3, cells := 0, slots := 0, locals := 65 } : Room) s m ([.ref h0] : List Value).toArray below meth c H locs 0 0 Q (F0 m 4 ls []) := by
    intro nn
    induction nn with
    | zero => intro i _ hi hmz; exact absurd hmz (Nat.not_lt_zero _)
    | succ nn ih =>
      intro i _ hi hms H locs ls hP hD hS hl
      refine lv_iload_n hx hb dX0_leakHour_4 rfl (lv_at hl 2 rfl) ?_
      refine lv_bipush (v := 8) hx hb dX0_leakHour_5 (by decide) ?_
      refine n_ge (i := i) (j := 8) (tgt := 46) hx hb (by omega) (by omega) dX0_leakHour_7 (by decide) (fun c7 => ?_) (fun c7 => ?_)
      · skip
        obtain ⟨hP, hD⟩ := PD_cg hP hD 1 (lkg F) rfl (fun j hj => lkw_o F (by omega)) (wn := List.flatten [flX cI cZ h0 h1 h2 h3 h4 h5 h6 h7 (lkg F) (F 1) (F 2) (F 3) (F 4) (F 5) (F 6)]) rfl
        refine lv_aload_n hx hb dX0_leakHour_46 rfl (lv_at hl 0 rfl) ?_
        refine kcallV (As := []) (rest := []) (Wn := [flX cI cZ h0 h1 h2 h3 h4 h5 h6 h7 (lkg F) (F 1) (F 2) (F 3) (F 4) (F 5) (ht (uR F 0 (lkg F)))]) X (c_X0_mendHeights l D cI cZ cS cJ h0 h1 h2 h3 h4 h5 h6 h7 (uR F 0 (lkg F))) (cwV 0 hts gX0_leakHour_X0_mendHeights rfl rfl rfl (by decide +kernel) ⟨Nat.le_of_ble_eq_true rfl, Nat.le_of_ble_eq_true rfl⟩) hK hP hD hS hA [0] rfl (by decide +kernel) rfl rfl rfl 0 0 rfl rfl rfl hl.1 rfl (Nat.le_of_ble_eq_true rfl) dX0_leakHour_47 ⟨Nat.le_of_ble_eq_true rfl, Nat.le_of_ble_eq_true rfl⟩ (fun H locs hP hD hS => ?_)
        refine lv_iload_n hx hb dX0_leakHour_50 rfl (lv_at hl 1 rfl) ?_
        refine hend _ _ _ _ _ ?_ hP hD hS dX0_leakHour_51
        rw [show i = 8 by omega]
      · skip
        refine lv_aload_n hx hb dX0_leakHour_10 rfl (lv_at hl 0 rfl) ?_
        refine va_get (D := D) (ci := 0) (v := .ref h1) (C := RX0) (T := TX0) (N := 7) hx hb hts hinX0 hown hK hP 0 rfl rfl 0 (by decide) (hts (.fieldLink RX0 9 "RibbonBalloons$Flock" "gas" "[I") (by decide +kernel)) (fun _ h9 => h9) rfl dX0_leakHour_11 ?_
        refine lv_iload_n hx hb dX0_leakHour_14 rfl (lv_at hl 2 rfl) ?_
        refine r_iald hx hb hK hP 1 0 i (f := lkw F i) rfl rfl (by omega) (by omega) dX0_leakHour_15 ?_
        refine lv_aload_n hx hb dX0_leakHour_16 rfl (lv_at hl 0 rfl) ?_
        refine va_get (D := D) (ci := 0) (v := .ref h3) (C := RX0) (T := TX0) (N := 7) hx hb hts hinX0 hown hK hP 0 rfl rfl 2 (by decide) (hts (.fieldLink RX0 18 "RibbonBalloons$Flock" "leaks" "[I") (by decide +kernel)) (fun _ h9 => h9) rfl dX0_leakHour_17 ?_
        refine lv_iload_n hx hb dX0_leakHour_20 rfl (lv_at hl 2 rfl) ?_
        refine r_iald hx hb hK hP 3 0 i (f := F 2) rfl rfl (by omega) (by omega) dX0_leakHour_21 ?_
        refine va_mmin hx hb (hml.trans hl.1.symm) hown (hts (.methodLink RX0 53 Lib.Math.min.name) (by decide +kernel)) (hts (.static Lib.Math.min.name) (by decide +kernel)) (hts (.initialized "java/lang/Math") (by decide +kernel)) (hts (.code Lib.Math.min.name Lib.Math.min.code 2 (some .int)) (by decide +kernel)) (Nat.le_of_ble_eq_true rfl) (Nat.le_of_ble_eq_true rfl) (Nat.zero_le _) (Nat.zero_le _) dX0_leakHour_22 ?_
        refine lv_eqi (y := mn ((lkw F i) i) ((F 2) i)) rfl ?_
        refine lv_eqi (y := lks F i) (by rw [lkw_i F i]; rfl) ?_
        refine lv_istore_n (lv' := [(3, .int (lks F i)), (0, .ref h0), (1, .int (sm (lks F) i)), (2, .int (nI i))]) hx hb dX0_leakHour_25 rfl hl (by decide) rfl (fun ls hl => ?_)
        refine lv_aload_n hx hb dX0_leakHour_26 rfl (lv_at hl 1 rfl) ?_
        refine va_get (D := D) (ci := 0) (v := .ref h1) (C := RX0) (T := TX0) (N := 7) hx hb hts hinX0 hown hK hP 0 rfl rfl 0 (by decide) (hts (.fieldLink RX0 9 "RibbonBalloons$Flock" "gas" "[I") (by decide +kernel)) (fun _ h9 => h9) rfl dX0_leakHour_27 ?_
        refine lv_iload_n hx hb dX0_leakHour_30 rfl (lv_at hl 3 rfl) ?_
        refine lv_dup2_11 hx hb dX0_leakHour_31 rfl rfl ?_
        refine r_iald hx hb hK hP 1 0 i (f := lkw F i) rfl rfl (by omega) (by omega) dX0_leakHour_32 ?_
        refine lv_iload_n hx hb dX0_leakHour_33 rfl (lv_at hl 0 rfl) ?_
        refine lv_isub hx hb dX0_leakHour_34 ?_
        refine r_iast hx hb hK hP hD hS 1 0 i (f := lkw F i) (x := ((lkw F i) i) - (lks F i)) (wn := List.flatten [flX cI cZ h0 h1 h2 h3 h4 h5 h6 h7 (upd (lkw F i) i (((lkw F i) i) - (lks F i))) (F 1) (F 2) (F 3) (F 4) (F 5) (F 6)]) rfl rfl (by omega) (by omega) rfl dX0_leakHour_35 (fun H locs hP hD hS => ?_)
        refine lv_iload_n hx hb dX0_leakHour_36 rfl (lv_at hl 2 rfl) ?_
        refine lv_iload_n hx hb dX0_leakHour_37 rfl (lv_at hl 0 rfl) ?_
        refine lv_iadd hx hb dX0_leakHour_38 ?_
        refine lv_eqi (y := sm (lks F) (i + 1)) (rfl) ?_
        refine lv_istore_n (lv' := [(1, .int (sm (lks F) (i + 1))), (3, .int (lks F i)), (0, .ref h0), (2, .int (nI i))]) hx hb dX0_leakHour_39 rfl hl (by decide) rfl (fun ls hl => ?_)
        refine lv_iinc (v := nI (i + 1)) (lv' := [(2, .int (nI (i + 1))), (1, .int (sm (lks F) (i + 1))), (3, .int (lks F i)), (0, .ref h0)]) hx hb dX0_leakHour_40 hl (k := 3) rfl (nI_add _ _) (by decide) rfl (fun ls hl => ?_)
        refine lv_goto (tgt := 4) hx hb dX0_leakHour_43 (by decide) ?_
        obtain ⟨hP, hD⟩ := PD_cg hP hD 1 (lkw F (i + 1)) rfl (fun j _ => lkw_s F j) (wn := List.flatten [flX cI cZ h0 h1 h2 h3 h4 h5 h6 h7 (lkw F (i + 1)) (F 1) (F 2) (F 3) (F 4) (F 5) (F 6)]) rfl
        exact ih  (i + 1) trivial (by omega) (by omega) _ _ _ hP hD hS (lv_sub hl [3, 1, 0] rfl)
  obtain ⟨hP, hD⟩ := PD_cg hP hD 1 (lkw F 0) rfl (fun j _ => (lkw_0 F j).symm) (wn := List.flatten [flX cI cZ h0 h1 h2 h3 h4 h5 h6 h7 (lkw F 0) (F 1) (F 2) (F 3) (F 4) (F 5) (F 6)]) rfl
  exact lp_4 (8 - 0 + 1) 0 trivial (by omega) (Nat.lt_succ_self _) _ _ _ hP hD hS (lv_sub hl [2, 1, 0] rfl)

set_option maxHeartbeats 4000000 in
set_option maxRecDepth 100000 in
theorem c_X0_snapHour (l : Launch) (D : va_G) (cI cZ cS cJ : ClassId) (h0 : Nat) (h1 : Nat) (h2 : Nat) (h3 : Nat) (h4 : Nat) (h5 : Nat) (h6 : Nat) (h7 : Nat) (F : Nat → Nat → Int32) (hM : ∀ j, j < 8 → F 6 j = ht F j) : C0 l yX0_snapHour wsX0_snapHour ({ frames := 4, cells := 0, slots := 0, locals := 87 }) D (tyL cI cZ cS cJ) [.ref h0] (List.flatten [flX cI cZ h0 h1 h2 h3 h4 h5 h6 h7 (F 0) (F 1) (F 2) (F 3) (F 4) (F 5) (F 6)]) (some (.int (if (sn F 7).1 = -1000 then 0 else 1))) (List.flatten [flX cI cZ h0 h1 h2 h3 h4 h5 h6 h7 (F 0) (F 1) (F 2) (snT F) (F 4) (F 5) (ht (uR F 3 (snT F)))]) 0 0 := by
  refine C0_int (cc := cX0_snapHour) (maxL := 5) (rt := .int) (by decide) rfl (Nat.le_of_ble_eq_true rfl) (rfl) ?_
  intro p e s m below meth c A ls Q X hK hP hD hS hA hl hend
  have X : CallFix p m c cX0_snapHour 5 s ([.ref h0] : List Value).toArray wsX0_snapHour RX0 := X
  obtain ⟨hx, hb, hml, hown, hts⟩ := id X
  have hl : lv_has ls 5 [(0, .ref h0)] := hl
  have hinX0 : ∀ w ∈ u_ws RX0 TX0 7, w ∈ wsX0_snapHour := by decide +kernel
  refine lv_sipush (v := (-1000)) hx hb dX0_snapHour_0 (by decide) ?_
  refine lv_istore_n (lv' := [(1, .int (-1000)), (0, .ref h0)]) hx hb dX0_snapHour_3 rfl hl (by decide) rfl (fun ls hl => ?_)
  refine lv_iconst (v := 0) hx hb dX0_snapHour_4 (by decide) ?_
  refine lv_istore_n (lv' := [(2, .int 0), (1, .int (-1000)), (0, .ref h0)]) hx hb dX0_snapHour_5 rfl hl (by decide) rfl (fun ls hl => ?_)
  refine lv_iconst (v := 0) hx hb dX0_snapHour_6 (by decide) ?_
  refine lv_istore_n (lv' := [(3, .int 0), (2, .int 0), (1, .int (-1000)), (0, .ref h0)]) hx hb dX0_snapHour_7 rfl hl (by decide) rfl (fun ls hl => ?_)
  have lp_8 : ∀ (nn : Nat) (i : Nat), True → (i ≤ 7) → 7 - i < nn → ∀ (H : Heap) (locs : List Loc) (ls : Array Slot), va_P D vwCl (List.flatten [flX cI cZ h0 h1 h2 h3 h4 h5 h6 h7 (F 0) (F 1) (F 2) (F 3) (F 4) (F 5) (F 6)]) H → va_D A (List.flatten [flX cI cZ h0 h1 h2 h3 h4 h5 h6 h7 (F 0) (F 1) (F 2) (F 3) (F 4) (F 5) (F 6)]) → va_S A s.heap H locs → lv_has ls 5 [(0, .ref h0), (1, .int ((sn F i).1)), (2, .int ((sn F i).2)), (3, .int (nI i))] → W p l e ({ frames := 4, cells := 0, slots := 0, locals := 87 } : Room) s m ([.ref h0] : List Value).toArray below meth c H locs 0 0 Q (F0 m 8 ls []) := by
    intro nn
    induction nn with
    | zero => intro i _ hi hmz; exact absurd hmz (Nat.not_lt_zero _)
    | succ nn ih =>
      intro i _ hi hms H locs ls hP hD hS hl
      refine lv_iload_n hx hb dX0_snapHour_8 rfl (lv_at hl 3 rfl) ?_
      refine lv_bipush (v := 7) hx hb dX0_snapHour_9 (by decide) ?_
      refine n_ge (i := i) (j := 7) (tgt := 49) hx hb (by omega) (by omega) dX0_snapHour_11 (by decide) (fun c11 => ?_) (fun c11 => ?_)
      · skip
        obtain rfl : i = 7 := by omega
        have hP : va_P D vwCl (List.flatten [flX cI cZ h0 h1 h2 h3 h4 h5 h6 h7 (F 0) (F 1) (F 2) (F 3) (F 4) (F 5) (F 6)]) _ := hP
        have hD : va_D A (List.flatten [flX cI cZ h0 h1 h2 h3 h4 h5 h6 h7 (F 0) (F 1) (F 2) (F 3) (F 4) (F 5) (F 6)]) := hD
        have hl : lv_has ls 5 [(0, .ref h0), (1, .int ((sn F 7).1)), (2, .int ((sn F 7).2)), (3, .int (nI 7))] := hl
        refine lv_iload_n hx hb dX0_snapHour_49 rfl (lv_at hl 1 rfl) ?_
        refine lv_sipush (v := (-1000)) hx hb dX0_snapHour_50 (by decide) ?_
        refine lv_icmp_ne (tgt := 58) hx hb dX0_snapHour_53 (by decide) (fun c53 => ?_) (fun c53 => ?_)
        · skip
          obtain ⟨k, hk7, ek⟩ : ∃ k, k < 7 ∧ (sn F 7).1 = nI k := (sn_nat F 7).resolve_left c53
          have hl : lv_has ls 5 [(0, .ref h0), (1, .int (nI k)), (2, .int ((sn F 7).2)), (3, .int (nI 7))] := lv_re hl 1 (x := (sn F 7).1) (y := nI k) rfl ek rfl
          refine lv_aload_n hx hb dX0_snapHour_58 rfl (lv_at hl 0 rfl) ?_
          refine va_get (D := D) (ci := 0) (v := .ref h4) (C := RX0) (T := TX0) (N := 7) hx hb hts hinX0 hown hK hP 0 rfl rfl 3 (by decide) (hts (.fieldLink RX0 21 "RibbonBalloons$Flock" "tied" "[Z") (by decide +kernel)) (fun _ h9 => h9) rfl dX0_snapHour_59 ?_
          refine lv_iload_n hx hb dX0_snapHour_62 rfl (lv_at hl 1 rfl) ?_
          refine lv_iconst (v := 0) hx hb dX0_snapHour_63 (by decide) ?_
          refine r_zast hx hb hK hP hD hS 4 1 k (f := F 3) (x := 0) (wn := List.flatten [flX cI cZ h0 h1 h2 h3 h4 h5 h6 h7 (F 0) (F 1) (F 2) (upd (F 3) k 0) (F 4) (F 5) (F 6)]) rfl rfl (by omega) (by omega) rfl rfl dX0_snapHour_64 (fun H locs hP hD hS => ?_)
          obtain ⟨hP, hD⟩ := PD_cg hP hD 4 (snT F) rfl (fun j _ => snT_y c53 ek (by omega) j) (wn := List.flatten [flX cI cZ h0 h1 h2 h3 h4 h5 h6 h7 (F 0) (F 1) (F 2) (snT F) (F 4) (F 5) (F 6)]) rfl
          refine lv_aload_n hx hb dX0_snapHour_65 rfl (lv_at hl 0 rfl) ?_
          refine kcallV (As := []) (rest := []) (Wn := [flX cI cZ h0 h1 h2 h3 h4 h5 h6 h7 (F 0) (F 1) (F 2) (snT F) (F 4) (F 5) (ht (uR F 3 (snT F)))]) X (c_X0_mendHeights l D cI cZ cS cJ h0 h1 h2 h3 h4 h5 h6 h7 (uR F 3 (snT F))) (cwV 0 hts gX0_snapHour_X0_mendHeights rfl rfl rfl (by decide +kernel) ⟨Nat.le_of_ble_eq_true rfl, Nat.le_of_ble_eq_true rfl⟩) hK hP hD hS hA [0] rfl (by decide +kernel) rfl rfl rfl 0 0 rfl rfl rfl hl.1 rfl (Nat.le_of_ble_eq_true rfl) dX0_snapHour_66 ⟨Nat.le_of_ble_eq_true rfl, Nat.le_of_ble_eq_true rfl⟩ (fun H locs hP hD hS => ?_)
          refine lv_iconst (v := 1) hx hb dX0_snapHour_69 (by decide) ?_
          refine hend _ _ _ _ _ ?_ hP hD hS dX0_snapHour_70
          rw [if_neg c53]
        · skip
          obtain ⟨hP, hD⟩ := PD_cg hP hD 4 (snT F) rfl (fun j _ => (congrFun (if_pos c53) j).symm) (wn := List.flatten [flX cI cZ h0 h1 h2 h3 h4 h5 h6 h7 (F 0) (F 1) (F 2) (snT F) (F 4) (F 5) (F 6)]) rfl
          obtain ⟨hP, hD⟩ := PD_cg hP hD 7 (ht (uR F 3 (snT F))) rfl (fun j hj => (hM j hj).trans (ht_sn0 c53 j)) (wn := List.flatten [flX cI cZ h0 h1 h2 h3 h4 h5 h6 h7 (F 0) (F 1) (F 2) (snT F) (F 4) (F 5) (ht (uR F 3 (snT F)))]) rfl
          refine lv_iconst (v := 0) hx hb dX0_snapHour_56 (by decide) ?_
          refine hend _ _ _ _ _ ?_ hP hD hS dX0_snapHour_57
          rw [if_pos c53]
      · skip
        refine lv_aload_n hx hb dX0_snapHour_14 rfl (lv_at hl 0 rfl) ?_
        refine lv_iload_n hx hb dX0_snapHour_15 rfl (lv_at hl 3 rfl) ?_
        refine kcallV (As := [.int (nI i)]) (rest := []) (Wn := [flX cI cZ h0 h1 h2 h3 h4 h5 h6 h7 (F 0) (F 1) (F 2) (F 3) (F 4) (F 5) (F 6)]) X (c_X0_pull l D cI cZ cS cJ h0 h1 h2 h3 h4 h5 h6 h7 F i (by omega)) (cwV 1 hts gX0_snapHour_X0_pull rfl rfl rfl (by decide +kernel) ⟨Nat.le_of_ble_eq_true rfl, Nat.le_of_ble_eq_true rfl⟩) hK hP hD hS hA [0] rfl (by decide +kernel) rfl rfl rfl 0 0 rfl rfl rfl hl.1 rfl (Nat.le_of_ble_eq_true rfl) dX0_snapHour_16 ⟨Nat.le_of_ble_eq_true rfl, Nat.le_of_ble_eq_true rfl⟩ (fun H locs hP hD hS => ?_)
        refine lv_istore (lv' := [(4, .int (pulC F i)), (0, .ref h0), (1, .int ((sn F i).1)), (2, .int ((sn F i).2)), (3, .int (nI i))]) hx hb dX0_snapHour_19 hl (by decide) rfl (fun ls hl => ?_)
        refine lv_iload hx hb dX0_snapHour_21 (lv_at hl 0 rfl) ?_
        refine lv_aload_n hx hb dX0_snapHour_23 rfl (lv_at hl 1 rfl) ?_
        refine va_get (D := D) (ci := 0) (v := .ref h6) (C := RX0) (T := TX0) (N := 7) hx hb hts hinX0 hown hK hP 0 rfl rfl 5 (by decide) (hts (.fieldLink RX0 28 "RibbonBalloons$Flock" "bears" "[I") (by decide +kernel)) (fun _ h9 => h9) rfl dX0_snapHour_24 ?_
        refine lv_iload_n hx hb dX0_snapHour_27 rfl (lv_at hl 4 rfl) ?_
        refine r_iald hx hb hK hP 6 0 i (f := F 5) rfl rfl (by omega) (by omega) dX0_snapHour_28 ?_
        refine lv_icmp_le (tgt := 43) hx hb dX0_snapHour_29 (by decide) (fun c29 => ?_) (fun c29 => ?_)
        · skip
          refine lv_iinc (v := nI (i + 1)) (lv' := [(3, .int (nI (i + 1))), (4, .int (pulC F i)), (0, .ref h0), (1, .int ((sn F i).1)), (2, .int ((sn F i).2))]) hx hb dX0_snapHour_43 hl (k := 4) rfl (nI_add _ _) (by decide) rfl (fun ls hl => ?_)
          refine lv_goto (tgt := 8) hx hb dX0_snapHour_46 (by decide) ?_
          have hl : lv_has ls 5 [(3, .int (nI (i + 1))), (4, .int (pulC F i)), (0, .ref h0), (1, .int ((sn F (i + 1)).1)), (2, .int ((sn F i).2))] := lv_re hl 3 (x := (sn F i).1) (y := (sn F (i + 1)).1) rfl (by first | rw [sn_y c29 c35] | rw [sn_n1 c29] | rw [sn_n2 c35]) rfl
          have hl : lv_has ls 5 [(3, .int (nI (i + 1))), (4, .int (pulC F i)), (0, .ref h0), (1, .int ((sn F (i + 1)).1)), (2, .int ((sn F (i + 1)).2))] := lv_re hl 4 (x := (sn F i).2) (y := (sn F (i + 1)).2) rfl (by first | rw [sn_y c29 c35] | rw [sn_n1 c29] | rw [sn_n2 c35]) rfl
          exact ih  (i + 1) trivial (by omega) (by omega) _ _ _ hP hD hS (lv_sub hl [2, 3, 4, 0] rfl)
        · skip
          refine lv_iload hx hb dX0_snapHour_32 (lv_at hl 0 rfl) ?_
          refine lv_iload_n hx hb dX0_snapHour_34 rfl (lv_at hl 3 rfl) ?_
          refine lv_icmp_le (tgt := 43) hx hb dX0_snapHour_35 (by decide) (fun c35 => ?_) (fun c35 => ?_)
          · skip
            refine lv_iinc (v := nI (i + 1)) (lv' := [(3, .int (nI (i + 1))), (4, .int (pulC F i)), (0, .ref h0), (1, .int ((sn F i).1)), (2, .int ((sn F i).2))]) hx hb dX0_snapHour_43 hl (k := 4) rfl (nI_add _ _) (by decide) rfl (fun ls hl => ?_)
            refine lv_goto (tgt := 8) hx hb dX0_snapHour_46 (by decide) ?_
            have hl : lv_has ls 5 [(3, .int (nI (i + 1))), (4, .int (pulC F i)), (0, .ref h0), (1, .int ((sn F (i + 1)).1)), (2, .int ((sn F i).2))] := lv_re hl 3 (x := (sn F i).1) (y := (sn F (i + 1)).1) rfl (by first | rw [sn_y c29 c35] | rw [sn_n1 c29] | rw [sn_n2 c35]) rfl
            have hl : lv_has ls 5 [(3, .int (nI (i + 1))), (4, .int (pulC F i)), (0, .ref h0), (1, .int ((sn F (i + 1)).1)), (2, .int ((sn F (i + 1)).2))] := lv_re hl 4 (x := (sn F i).2) (y := (sn F (i + 1)).2) rfl (by first | rw [sn_y c29 c35] | rw [sn_n1 c29] | rw [sn_n2 c35]) rfl
            exact ih  (i + 1) trivial (by omega) (by omega) _ _ _ hP hD hS (lv_sub hl [2, 3, 4, 0] rfl)
          · skip
            refine lv_iload_n hx hb dX0_snapHour_38 rfl (lv_at hl 4 rfl) ?_
            refine lv_istore_n (lv' := [(1, .int (nI i)), (4, .int (pulC F i)), (0, .ref h0), (2, .int ((sn F i).2)), (3, .int (nI i))]) hx hb dX0_snapHour_39 rfl hl (by decide) rfl (fun ls hl => ?_)
            refine lv_iload hx hb dX0_snapHour_40 (lv_at hl 1 rfl) ?_
            refine lv_istore_n (lv' := [(2, .int (pulC F i)), (1, .int (nI i)), (4, .int (pulC F i)), (0, .ref h0), (3, .int (nI i))]) hx hb dX0_snapHour_42 rfl hl (by decide) rfl (fun ls hl => ?_)
            refine lv_iinc (v := nI (i + 1)) (lv' := [(3, .int (nI (i + 1))), (2, .int (pulC F i)), (1, .int (nI i)), (4, .int (pulC F i)), (0, .ref h0)]) hx hb dX0_snapHour_43 hl (k := 4) rfl (nI_add _ _) (by decide) rfl (fun ls hl => ?_)
            refine lv_goto (tgt := 8) hx hb dX0_snapHour_46 (by decide) ?_
            have hl : lv_has ls 5 [(3, .int (nI (i + 1))), (2, .int (pulC F i)), (1, .int ((sn F (i + 1)).1)), (4, .int (pulC F i)), (0, .ref h0)] := lv_re hl 2 (x := nI i) (y := (sn F (i + 1)).1) rfl (by first | rw [sn_y c29 c35] | rw [sn_n1 c29] | rw [sn_n2 c35]) rfl
            have hl : lv_has ls 5 [(3, .int (nI (i + 1))), (2, .int ((sn F (i + 1)).2)), (1, .int ((sn F (i + 1)).1)), (4, .int (pulC F i)), (0, .ref h0)] := lv_re hl 1 (x := pulC F i) (y := (sn F (i + 1)).2) rfl (by first | rw [sn_y c29 c35] | rw [sn_n1 c29] | rw [sn_n2 c35]) rfl
            exact ih  (i + 1) trivial (by omega) (by omega) _ _ _ hP hD hS (lv_sub hl [4, 2, 1, 0] rfl)
  exact lp_8 (7 - 0 + 1) 0 trivial (by omega) (Nat.lt_succ_self _) _ _ _ hP hD hS (lv_sub hl [3, 2, 1, 0] rfl)

set_option maxHeartbeats 4000000 in
set_option maxRecDepth 100000 in
theorem c_X0_whyNotTie (l : Launch) (D : va_G) (cI cZ cS cJ : ClassId) (h0 : Nat) (h1 : Nat) (h2 : Nat) (h3 : Nat) (h4 : Nat) (h5 : Nat) (h6 : Nat) (h7 : Nat) (F : Nat → Nat → Int32) (r : Nat) (x : Int32) (hr7 : r < 7) : C0 l yX0_whyNotTie wsX0_whyNotTie ({ frames := 1, cells := 0, slots := 0, locals := 21 }) D (tyL cI cZ cS cJ) [.ref h0, .int (nI r), .int x] (List.flatten [flX cI cZ h0 h1 h2 h3 h4 h5 h6 h7 (F 0) (F 1) (F 2) (F 3) (F 4) (F 5) (F 6)]) (some (.int (wnt F r x))) (List.flatten [flX cI cZ h0 h1 h2 h3 h4 h5 h6 h7 (F 0) (F 1) (F 2) (F 3) (F 4) (F 5) (F 6)]) 0 0 := by
  refine C0_int (cc := cX0_whyNotTie) (maxL := 3) (rt := .int) (by decide) rfl (Nat.le_of_ble_eq_true rfl) (rfl) ?_
  intro p e s m below meth c A ls Q X hK hP hD hS hA hl hend
  have X : CallFix p m c cX0_whyNotTie 3 s ([.ref h0, .int (nI r), .int x] : List Value).toArray wsX0_whyNotTie RX0 := X
  obtain ⟨hx, hb, hml, hown, hts⟩ := id X
  have hl : lv_has ls 3 [(0, .ref h0), (1, .int (nI r)), (2, .int x)] := hl
  have hinX0 : ∀ w ∈ u_ws RX0 TX0 7, w ∈ wsX0_whyNotTie := by decide +kernel
  refine lv_aload_n hx hb dX0_whyNotTie_0 rfl (lv_at hl 0 rfl) ?_
  refine va_get (D := D) (ci := 0) (v := .ref h4) (C := RX0) (T := TX0) (N := 7) hx hb hts hinX0 hown hK hP 0 rfl rfl 3 (by decide) (hts (.fieldLink RX0 21 "RibbonBalloons$Flock" "tied" "[Z") (by decide +kernel)) (fun _ h9 => h9) rfl dX0_whyNotTie_1 ?_
  refine lv_iload_n hx hb dX0_whyNotTie_4 rfl (lv_at hl 1 rfl) ?_
  refine r_zald hx hb hK hP 4 1 r (f := F 3) rfl rfl (by omega) (by omega) dX0_whyNotTie_5 ?_
  refine lv_if_eq (tgt := 12) hx hb dX0_whyNotTie_6 (by decide) (fun c6 => ?_) (fun c6 => ?_)
  · skip
    refine lv_aload_n hx hb dX0_whyNotTie_12 rfl (lv_at hl 0 rfl) ?_
    refine va_get (D := D) (ci := 0) (v := .ref h7) (C := RX0) (T := TX0) (N := 7) hx hb hts hinX0 hown hK hP 0 rfl rfl 6 (by decide) (hts (.fieldLink RX0 31 "RibbonBalloons$Flock" "heights" "[I") (by decide +kernel)) (fun _ h9 => h9) rfl dX0_whyNotTie_13 ?_
    refine lv_iload_n hx hb dX0_whyNotTie_16 rfl (lv_at hl 1 rfl) ?_
    refine r_iald hx hb hK hP 7 0 r (f := F 6) rfl rfl (by omega) (by omega) dX0_whyNotTie_17 ?_
    refine lv_aload_n hx hb dX0_whyNotTie_18 rfl (lv_at hl 0 rfl) ?_
    refine va_get (D := D) (ci := 0) (v := .ref h7) (C := RX0) (T := TX0) (N := 7) hx hb hts hinX0 hown hK hP 0 rfl rfl 6 (by decide) (hts (.fieldLink RX0 31 "RibbonBalloons$Flock" "heights" "[I") (by decide +kernel)) (fun _ h9 => h9) rfl dX0_whyNotTie_19 ?_
    refine lv_iload_n hx hb dX0_whyNotTie_22 rfl (lv_at hl 1 rfl) ?_
    refine lv_iconst (v := 1) hx hb dX0_whyNotTie_23 (by decide) ?_
    refine lv_iadd hx hb dX0_whyNotTie_24 ?_
    refine lv_eqi (y := nI (r + 1)) (nI_add _ _) ?_
    refine r_iald hx hb hK hP 7 0 (r + 1) (f := F 6) rfl rfl (by omega) (by omega) dX0_whyNotTie_25 ?_
    refine lv_isub hx hb dX0_whyNotTie_26 ?_
    refine va_mabs hx hb (hml.trans hl.1.symm) hown (hts (.methodLink RX0 85 Lib.Math.abs.name) (by decide +kernel)) (hts (.static Lib.Math.abs.name) (by decide +kernel)) (hts (.initialized "java/lang/Math") (by decide +kernel)) (hts (.code Lib.Math.abs.name Lib.Math.abs.code 1 (some .int)) (by decide +kernel)) (Nat.le_of_ble_eq_true rfl) (Nat.le_of_ble_eq_true rfl) (Nat.zero_le _) (Nat.zero_le _) dX0_whyNotTie_27 ?_
    refine lv_iload_n hx hb dX0_whyNotTie_30 rfl (lv_at hl 2 rfl) ?_
    refine lv_icmp_le (tgt := 39) hx hb dX0_whyNotTie_31 (by decide) (fun c31 => ?_) (fun c31 => ?_)
    · skip
      refine lv_iconst (v := 0) hx hb dX0_whyNotTie_39 (by decide) ?_
      refine hend _ _ _ _ _ ?_ hP hD hS dX0_whyNotTie_40
      unfold wnt; first | rw [if_neg c6] | rw [if_pos c6, if_pos (lt_yes c31)] | rw [if_pos c6, if_neg (lt_no c31)]
    · skip
      refine lv_bipush (v := 8) hx hb dX0_whyNotTie_34 (by decide) ?_
      refine lv_goto (tgt := 40) hx hb dX0_whyNotTie_36 (by decide) ?_
      refine hend _ _ _ _ _ ?_ hP hD hS dX0_whyNotTie_40
      unfold wnt; first | rw [if_neg c6] | rw [if_pos c6, if_pos (lt_yes c31)] | rw [if_pos c6, if_neg (lt_no c31)]
  · skip
    refine lv_bipush (v := 7) hx hb dX0_whyNotTie_9 (by decide) ?_
    refine hend _ _ _ _ _ ?_ hP hD hS dX0_whyNotTie_11
    unfold wnt; first | rw [if_neg c6] | rw [if_pos c6, if_pos (lt_yes c31)] | rw [if_pos c6, if_neg (lt_no c31)]

set_option maxHeartbeats 4000000 in
set_option maxRecDepth 100000 in
theorem c_X0_whyNot0 (l : Launch) (D : va_G) (cI cZ cS cJ : ClassId) (h0 : Nat) (h1 : Nat) (h2 : Nat) (h3 : Nat) (h4 : Nat) (h5 : Nat) (h6 : Nat) (h7 : Nat) (F : Nat → Nat → Int32) (b : Nat) (x : Int32) (hb8 : b < 8) : C0 l yX0_whyNot wsX0_whyNot ({ frames := 0, cells := 0, slots := 0, locals := 0 }) D (tyL cI cZ cS cJ) [.ref h0, .int 0, .int (nI b), .int x] (List.flatten [flX cI cZ h0 h1 h2 h3 h4 h5 h6 h7 (F 0) (F 1) (F 2) (F 3) (F 4) (F 5) (F 6)]) (some (.int (wn0 F b x))) (List.flatten [flX cI cZ h0 h1 h2 h3 h4 h5 h6 h7 (F 0) (F 1) (F 2) (F 3) (F 4) (F 5) (F 6)]) 0 0 := by
  refine C0_int (cc := cX0_whyNot) (maxL := 4) (rt := .int) (by decide) rfl (Nat.le_of_ble_eq_true rfl) (rfl) ?_
  intro p e s m below meth c A ls Q X hK hP hD hS hA hl hend
  have X : CallFix p m c cX0_whyNot 4 s ([.ref h0, .int 0, .int (nI b), .int x] : List Value).toArray wsX0_whyNot RX0 := X
  obtain ⟨hx, hb, hml, hown, hts⟩ := id X
  have hl : lv_has ls 4 [(0, .ref h0), (1, .int 0), (2, .int (nI b)), (3, .int x)] := hl
  have hinX0 : ∀ w ∈ u_ws RX0 TX0 7, w ∈ wsX0_whyNot := by decide +kernel
  refine lv_iload_n hx hb dX0_whyNot_0 rfl (lv_at hl 1 rfl) ?_
  refine lv_tableIn (tgt := 36) hx hb dX0_whyNot_1 (by decide) (by decide) rfl (by decide) ?_
  refine lv_aload_n hx hb dX0_whyNot_36 rfl (lv_at hl 0 rfl) ?_
  refine va_get (D := D) (ci := 0) (v := .ref h1) (C := RX0) (T := TX0) (N := 7) hx hb hts hinX0 hown hK hP 0 rfl rfl 0 (by decide) (hts (.fieldLink RX0 9 "RibbonBalloons$Flock" "gas" "[I") (by decide +kernel)) (fun _ h9 => h9) rfl dX0_whyNot_37 ?_
  refine lv_iload_n hx hb dX0_whyNot_40 rfl (lv_at hl 2 rfl) ?_
  refine r_iald hx hb hK hP 1 0 b (f := F 0) rfl rfl (by omega) (by omega) dX0_whyNot_41 ?_
  refine lv_iload_n hx hb dX0_whyNot_42 rfl (lv_at hl 3 rfl) ?_
  refine lv_iadd hx hb dX0_whyNot_43 ?_
  refine lv_sipush (v := 200) hx hb dX0_whyNot_44 (by decide) ?_
  refine lv_icmp_le (tgt := 52) hx hb dX0_whyNot_47 (by decide) (fun c47 => ?_) (fun c47 => ?_)
  · skip
    refine lv_aload_n hx hb dX0_whyNot_52 rfl (lv_at hl 0 rfl) ?_
    refine va_get (D := D) (ci := 0) (v := .ref h7) (C := RX0) (T := TX0) (N := 7) hx hb hts hinX0 hown hK hP 0 rfl rfl 6 (by decide) (hts (.fieldLink RX0 31 "RibbonBalloons$Flock" "heights" "[I") (by decide +kernel)) (fun _ h9 => h9) rfl dX0_whyNot_53 ?_
    refine lv_iload_n hx hb dX0_whyNot_56 rfl (lv_at hl 2 rfl) ?_
    refine r_iald hx hb hK hP 7 0 b (f := F 6) rfl rfl (by omega) (by omega) dX0_whyNot_57 ?_
    refine lv_if_le (tgt := 65) hx hb dX0_whyNot_58 (by decide) (fun c58 => ?_) (fun c58 => ?_)
    · skip
      refine lv_iconst (v := 0) hx hb dX0_whyNot_65 (by decide) ?_
      refine hend _ _ _ _ _ ?_ hP hD hS dX0_whyNot_66
      unfold wn0; first | rw [if_pos (lt_yes c47)] | rw [if_neg (lt_no c47), if_pos (lt_yes c58)] | rw [if_neg (lt_no c47), if_neg (lt_no c58)]
    · skip
      refine lv_iconst (v := 2) hx hb dX0_whyNot_61 (by decide) ?_
      refine lv_goto (tgt := 66) hx hb dX0_whyNot_62 (by decide) ?_
      refine hend _ _ _ _ _ ?_ hP hD hS dX0_whyNot_66
      unfold wn0; first | rw [if_pos (lt_yes c47)] | rw [if_neg (lt_no c47), if_pos (lt_yes c58)] | rw [if_neg (lt_no c47), if_neg (lt_no c58)]
  · skip
    refine lv_iconst (v := 1) hx hb dX0_whyNot_50 (by decide) ?_
    refine hend _ _ _ _ _ ?_ hP hD hS dX0_whyNot_51
    unfold wn0; first | rw [if_pos (lt_yes c47)] | rw [if_neg (lt_no c47), if_pos (lt_yes c58)] | rw [if_neg (lt_no c47), if_neg (lt_no c58)]

set_option maxHeartbeats 4000000 in
set_option maxRecDepth 100000 in
theorem c_X0_whyNot1 (l : Launch) (D : va_G) (cI cZ cS cJ : ClassId) (h0 : Nat) (h1 : Nat) (h2 : Nat) (h3 : Nat) (h4 : Nat) (h5 : Nat) (h6 : Nat) (h7 : Nat) (F : Nat → Nat → Int32) (b : Nat) (x : Int32) (hb8 : b < 8) : C0 l yX0_whyNot wsX0_whyNot ({ frames := 0, cells := 0, slots := 0, locals := 0 }) D (tyL cI cZ cS cJ) [.ref h0, .int 1, .int (nI b), .int x] (List.flatten [flX cI cZ h0 h1 h2 h3 h4 h5 h6 h7 (F 0) (F 1) (F 2) (F 3) (F 4) (F 5) (F 6)]) (some (.int (wn1 F b x))) (List.flatten [flX cI cZ h0 h1 h2 h3 h4 h5 h6 h7 (F 0) (F 1) (F 2) (F 3) (F 4) (F 5) (F 6)]) 0 0 := by
  refine C0_int (cc := cX0_whyNot) (maxL := 4) (rt := .int) (by decide) rfl (Nat.le_of_ble_eq_true rfl) (rfl) ?_
  intro p e s m below meth c A ls Q X hK hP hD hS hA hl hend
  have X : CallFix p m c cX0_whyNot 4 s ([.ref h0, .int 1, .int (nI b), .int x] : List Value).toArray wsX0_whyNot RX0 := X
  obtain ⟨hx, hb, hml, hown, hts⟩ := id X
  have hl : lv_has ls 4 [(0, .ref h0), (1, .int 1), (2, .int (nI b)), (3, .int x)] := hl
  have hinX0 : ∀ w ∈ u_ws RX0 TX0 7, w ∈ wsX0_whyNot := by decide +kernel
  refine lv_iload_n hx hb dX0_whyNot_0 rfl (lv_at hl 1 rfl) ?_
  refine lv_tableIn (tgt := 67) hx hb dX0_whyNot_1 (by decide) (by decide) rfl (by decide) ?_
  refine lv_aload_n hx hb dX0_whyNot_67 rfl (lv_at hl 0 rfl) ?_
  refine va_get (D := D) (ci := 0) (v := .ref h1) (C := RX0) (T := TX0) (N := 7) hx hb hts hinX0 hown hK hP 0 rfl rfl 0 (by decide) (hts (.fieldLink RX0 9 "RibbonBalloons$Flock" "gas" "[I") (by decide +kernel)) (fun _ h9 => h9) rfl dX0_whyNot_68 ?_
  refine lv_iload_n hx hb dX0_whyNot_71 rfl (lv_at hl 2 rfl) ?_
  refine r_iald hx hb hK hP 1 0 b (f := F 0) rfl rfl (by omega) (by omega) dX0_whyNot_72 ?_
  refine lv_iload_n hx hb dX0_whyNot_73 rfl (lv_at hl 3 rfl) ?_
  refine lv_icmp_ge (tgt := 81) hx hb dX0_whyNot_74 (by decide) (fun c74 => ?_) (fun c74 => ?_)
  · skip
    refine lv_iconst (v := 0) hx hb dX0_whyNot_81 (by decide) ?_
    refine hend _ _ _ _ _ ?_ hP hD hS dX0_whyNot_82
    unfold wn1; first | rw [if_pos (lt_yes c74)] | rw [if_neg (lt_no c74)]
  · skip
    refine lv_iconst (v := 3) hx hb dX0_whyNot_77 (by decide) ?_
    refine lv_goto (tgt := 82) hx hb dX0_whyNot_78 (by decide) ?_
    refine hend _ _ _ _ _ ?_ hP hD hS dX0_whyNot_82
    unfold wn1; first | rw [if_pos (lt_yes c74)] | rw [if_neg (lt_no c74)]

set_option maxHeartbeats 4000000 in
set_option maxRecDepth 100000 in
theorem c_X0_whyNot2 (l : Launch) (D : va_G) (cI cZ cS cJ : ClassId) (h0 : Nat) (h1 : Nat) (h2 : Nat) (h3 : Nat) (h4 : Nat) (h5 : Nat) (h6 : Nat) (h7 : Nat) (F : Nat → Nat → Int32) (b : Nat) (x : Int32) (hb8 : b < 8) : C0 l yX0_whyNot wsX0_whyNot ({ frames := 0, cells := 0, slots := 0, locals := 0 }) D (tyL cI cZ cS cJ) [.ref h0, .int 2, .int (nI b), .int x] (List.flatten [flX cI cZ h0 h1 h2 h3 h4 h5 h6 h7 (F 0) (F 1) (F 2) (F 3) (F 4) (F 5) (F 6)]) (some (.int (wn2 F b))) (List.flatten [flX cI cZ h0 h1 h2 h3 h4 h5 h6 h7 (F 0) (F 1) (F 2) (F 3) (F 4) (F 5) (F 6)]) 0 0 := by
  refine C0_int (cc := cX0_whyNot) (maxL := 4) (rt := .int) (by decide) rfl (Nat.le_of_ble_eq_true rfl) (rfl) ?_
  intro p e s m below meth c A ls Q X hK hP hD hS hA hl hend
  have X : CallFix p m c cX0_whyNot 4 s ([.ref h0, .int 2, .int (nI b), .int x] : List Value).toArray wsX0_whyNot RX0 := X
  obtain ⟨hx, hb, hml, hown, hts⟩ := id X
  have hl : lv_has ls 4 [(0, .ref h0), (1, .int 2), (2, .int (nI b)), (3, .int x)] := hl
  have hinX0 : ∀ w ∈ u_ws RX0 TX0 7, w ∈ wsX0_whyNot := by decide +kernel
  refine lv_iload_n hx hb dX0_whyNot_0 rfl (lv_at hl 1 rfl) ?_
  refine lv_tableIn (tgt := 83) hx hb dX0_whyNot_1 (by decide) (by decide) rfl (by decide) ?_
  refine lv_aload_n hx hb dX0_whyNot_83 rfl (lv_at hl 0 rfl) ?_
  refine va_get (D := D) (ci := 0) (v := .ref h2) (C := RX0) (T := TX0) (N := 7) hx hb hts hinX0 hown hK hP 0 rfl rfl 1 (by decide) (hts (.fieldLink RX0 15 "RibbonBalloons$Flock" "bags" "[I") (by decide +kernel)) (fun _ h9 => h9) rfl dX0_whyNot_84 ?_
  refine lv_iload_n hx hb dX0_whyNot_87 rfl (lv_at hl 2 rfl) ?_
  refine r_iald hx hb hK hP 2 0 b (f := F 1) rfl rfl (by omega) (by omega) dX0_whyNot_88 ?_
  refine lv_if_ne (tgt := 96) hx hb dX0_whyNot_89 (by decide) (fun c89 => ?_) (fun c89 => ?_)
  · skip
    refine lv_iconst (v := 0) hx hb dX0_whyNot_96 (by decide) ?_
    refine hend _ _ _ _ _ ?_ hP hD hS dX0_whyNot_97
    unfold wn2; first | rw [if_pos c89] | rw [if_neg c89]
  · skip
    refine lv_iconst (v := 4) hx hb dX0_whyNot_92 (by decide) ?_
    refine lv_goto (tgt := 97) hx hb dX0_whyNot_93 (by decide) ?_
    refine hend _ _ _ _ _ ?_ hP hD hS dX0_whyNot_97
    unfold wn2; first | rw [if_pos c89] | rw [if_neg c89]

set_option maxHeartbeats 4000000 in
set_option maxRecDepth 100000 in
theorem c_X0_whyNot3 (l : Launch) (D : va_G) (cI cZ cS cJ : ClassId) (h0 : Nat) (h1 : Nat) (h2 : Nat) (h3 : Nat) (h4 : Nat) (h5 : Nat) (h6 : Nat) (h7 : Nat) (F : Nat → Nat → Int32) (b : Nat) (x : Int32) (hb8 : b < 8) : C0 l yX0_whyNot wsX0_whyNot ({ frames := 0, cells := 0, slots := 0, locals := 0 }) D (tyL cI cZ cS cJ) [.ref h0, .int 3, .int (nI b), .int x] (List.flatten [flX cI cZ h0 h1 h2 h3 h4 h5 h6 h7 (F 0) (F 1) (F 2) (F 3) (F 4) (F 5) (F 6)]) (some (.int (wn3 F b))) (List.flatten [flX cI cZ h0 h1 h2 h3 h4 h5 h6 h7 (F 0) (F 1) (F 2) (F 3) (F 4) (F 5) (F 6)]) 0 0 := by
  refine C0_int (cc := cX0_whyNot) (maxL := 4) (rt := .int) (by decide) rfl (Nat.le_of_ble_eq_true rfl) (rfl) ?_
  intro p e s m below meth c A ls Q X hK hP hD hS hA hl hend
  have X : CallFix p m c cX0_whyNot 4 s ([.ref h0, .int 3, .int (nI b), .int x] : List Value).toArray wsX0_whyNot RX0 := X
  obtain ⟨hx, hb, hml, hown, hts⟩ := id X
  have hl : lv_has ls 4 [(0, .ref h0), (1, .int 3), (2, .int (nI b)), (3, .int x)] := hl
  have hinX0 : ∀ w ∈ u_ws RX0 TX0 7, w ∈ wsX0_whyNot := by decide +kernel
  refine lv_iload_n hx hb dX0_whyNot_0 rfl (lv_at hl 1 rfl) ?_
  refine lv_tableIn (tgt := 98) hx hb dX0_whyNot_1 (by decide) (by decide) rfl (by decide) ?_
  refine lv_aload_n hx hb dX0_whyNot_98 rfl (lv_at hl 0 rfl) ?_
  refine va_get (D := D) (ci := 0) (v := .ref h2) (C := RX0) (T := TX0) (N := 7) hx hb hts hinX0 hown hK hP 0 rfl rfl 1 (by decide) (hts (.fieldLink RX0 15 "RibbonBalloons$Flock" "bags" "[I") (by decide +kernel)) (fun _ h9 => h9) rfl dX0_whyNot_99 ?_
  refine lv_iload_n hx hb dX0_whyNot_102 rfl (lv_at hl 2 rfl) ?_
  refine r_iald hx hb hK hP 2 0 b (f := F 1) rfl rfl (by omega) (by omega) dX0_whyNot_103 ?_
  refine lv_bipush (v := 10) hx hb dX0_whyNot_104 (by decide) ?_
  refine lv_icmp_lt (tgt := 111) hx hb dX0_whyNot_106 (by decide) (fun c106 => ?_) (fun c106 => ?_)
  · skip
    refine lv_aload_n hx hb dX0_whyNot_111 rfl (lv_at hl 0 rfl) ?_
    refine va_get (D := D) (ci := 0) (v := .ref h7) (C := RX0) (T := TX0) (N := 7) hx hb hts hinX0 hown hK hP 0 rfl rfl 6 (by decide) (hts (.fieldLink RX0 31 "RibbonBalloons$Flock" "heights" "[I") (by decide +kernel)) (fun _ h9 => h9) rfl dX0_whyNot_112 ?_
    refine lv_iload_n hx hb dX0_whyNot_115 rfl (lv_at hl 2 rfl) ?_
    refine r_iald hx hb hK hP 7 0 b (f := F 6) rfl rfl (by omega) (by omega) dX0_whyNot_116 ?_
    refine lv_if_le (tgt := 125) hx hb dX0_whyNot_117 (by decide) (fun c117 => ?_) (fun c117 => ?_)
    · skip
      refine lv_iconst (v := 0) hx hb dX0_whyNot_125 (by decide) ?_
      refine hend _ _ _ _ _ ?_ hP hD hS dX0_whyNot_126
      unfold wn3; first | rw [if_neg c106] | rw [if_pos c106, if_pos (lt_yes c117)] | rw [if_pos c106, if_neg (lt_no c117)]
    · skip
      refine lv_bipush (v := 6) hx hb dX0_whyNot_120 (by decide) ?_
      refine lv_goto (tgt := 126) hx hb dX0_whyNot_122 (by decide) ?_
      refine hend _ _ _ _ _ ?_ hP hD hS dX0_whyNot_126
      unfold wn3; first | rw [if_neg c106] | rw [if_pos c106, if_pos (lt_yes c117)] | rw [if_pos c106, if_neg (lt_no c117)]
  · skip
    refine lv_iconst (v := 5) hx hb dX0_whyNot_109 (by decide) ?_
    refine hend _ _ _ _ _ ?_ hP hD hS dX0_whyNot_110
    unfold wn3; first | rw [if_neg c106] | rw [if_pos c106, if_pos (lt_yes c117)] | rw [if_pos c106, if_neg (lt_no c117)]

set_option maxHeartbeats 4000000 in
set_option maxRecDepth 100000 in
theorem c_X0_whyNot4 (l : Launch) (D : va_G) (cI cZ cS cJ : ClassId) (h0 : Nat) (h1 : Nat) (h2 : Nat) (h3 : Nat) (h4 : Nat) (h5 : Nat) (h6 : Nat) (h7 : Nat) (F : Nat → Nat → Int32) (r : Nat) (x : Int32) (hr7 : r < 7) : C0 l yX0_whyNot wsX0_whyNot ({ frames := 2, cells := 0, slots := 0, locals := 43 }) D (tyL cI cZ cS cJ) [.ref h0, .int 4, .int (nI r), .int x] (List.flatten [flX cI cZ h0 h1 h2 h3 h4 h5 h6 h7 (F 0) (F 1) (F 2) (F 3) (F 4) (F 5) (F 6)]) (some (.int (wnt F r x))) (List.flatten [flX cI cZ h0 h1 h2 h3 h4 h5 h6 h7 (F 0) (F 1) (F 2) (F 3) (F 4) (F 5) (F 6)]) 0 0 := by
  refine C0_int (cc := cX0_whyNot) (maxL := 4) (rt := .int) (by decide) rfl (Nat.le_of_ble_eq_true rfl) (rfl) ?_
  intro p e s m below meth c A ls Q X hK hP hD hS hA hl hend
  have X : CallFix p m c cX0_whyNot 4 s ([.ref h0, .int 4, .int (nI r), .int x] : List Value).toArray wsX0_whyNot RX0 := X
  obtain ⟨hx, hb, hml, hown, hts⟩ := id X
  have hl : lv_has ls 4 [(0, .ref h0), (1, .int 4), (2, .int (nI r)), (3, .int x)] := hl
  refine lv_iload_n hx hb dX0_whyNot_0 rfl (lv_at hl 1 rfl) ?_
  refine lv_tableIn (tgt := 127) hx hb dX0_whyNot_1 (by decide) (by decide) rfl (by decide) ?_
  refine lv_aload_n hx hb dX0_whyNot_127 rfl (lv_at hl 0 rfl) ?_
  refine lv_iload_n hx hb dX0_whyNot_128 rfl (lv_at hl 2 rfl) ?_
  refine lv_iload_n hx hb dX0_whyNot_129 rfl (lv_at hl 3 rfl) ?_
  refine kcallV (As := [.int (nI r), .int x]) (rest := []) (Wn := [flX cI cZ h0 h1 h2 h3 h4 h5 h6 h7 (F 0) (F 1) (F 2) (F 3) (F 4) (F 5) (F 6)]) X (c_X0_whyNotTie l D cI cZ cS cJ h0 h1 h2 h3 h4 h5 h6 h7 F r x (by omega)) (cwV 2 hts gX0_whyNot_X0_whyNotTie rfl rfl rfl (by decide +kernel) ⟨Nat.le_of_ble_eq_true rfl, Nat.le_of_ble_eq_true rfl⟩) hK hP hD hS hA [0] rfl (by decide +kernel) rfl rfl rfl 0 0 rfl rfl rfl hl.1 rfl (Nat.le_of_ble_eq_true rfl) dX0_whyNot_130 ⟨Nat.le_of_ble_eq_true rfl, Nat.le_of_ble_eq_true rfl⟩ (fun H locs hP hD hS => ?_)
  refine hend _ _ _ _ _ ?_ hP hD hS dX0_whyNot_133
  exact rfl

set_option maxHeartbeats 4000000 in
set_option maxRecDepth 100000 in
theorem c_X0_whyNot5 (l : Launch) (D : va_G) (cI cZ cS cJ : ClassId) (h0 : Nat) (h1 : Nat) (h2 : Nat) (h3 : Nat) (h4 : Nat) (h5 : Nat) (h6 : Nat) (h7 : Nat) (F : Nat → Nat → Int32) (r : Nat) (x : Int32) (hr7 : r < 7) : C0 l yX0_whyNot wsX0_whyNot ({ frames := 0, cells := 0, slots := 0, locals := 0 }) D (tyL cI cZ cS cJ) [.ref h0, .int 5, .int (nI r), .int x] (List.flatten [flX cI cZ h0 h1 h2 h3 h4 h5 h6 h7 (F 0) (F 1) (F 2) (F 3) (F 4) (F 5) (F 6)]) (some (.int (wn5 F r))) (List.flatten [flX cI cZ h0 h1 h2 h3 h4 h5 h6 h7 (F 0) (F 1) (F 2) (F 3) (F 4) (F 5) (F 6)]) 0 0 := by
  refine C0_int (cc := cX0_whyNot) (maxL := 4) (rt := .int) (by decide) rfl (Nat.le_of_ble_eq_true rfl) (rfl) ?_
  intro p e s m below meth c A ls Q X hK hP hD hS hA hl hend
  have X : CallFix p m c cX0_whyNot 4 s ([.ref h0, .int 5, .int (nI r), .int x] : List Value).toArray wsX0_whyNot RX0 := X
  obtain ⟨hx, hb, hml, hown, hts⟩ := id X
  have hl : lv_has ls 4 [(0, .ref h0), (1, .int 5), (2, .int (nI r)), (3, .int x)] := hl
  have hinX0 : ∀ w ∈ u_ws RX0 TX0 7, w ∈ wsX0_whyNot := by decide +kernel
  refine lv_iload_n hx hb dX0_whyNot_0 rfl (lv_at hl 1 rfl) ?_
  refine lv_tableOut (tgt := 134) hx hb dX0_whyNot_1 (by decide) (by decide) ?_
  refine lv_aload_n hx hb dX0_whyNot_134 rfl (lv_at hl 0 rfl) ?_
  refine va_get (D := D) (ci := 0) (v := .ref h4) (C := RX0) (T := TX0) (N := 7) hx hb hts hinX0 hown hK hP 0 rfl rfl 3 (by decide) (hts (.fieldLink RX0 21 "RibbonBalloons$Flock" "tied" "[Z") (by decide +kernel)) (fun _ h9 => h9) rfl dX0_whyNot_135 ?_
  refine lv_iload_n hx hb dX0_whyNot_138 rfl (lv_at hl 2 rfl) ?_
  refine r_zald hx hb hK hP 4 1 r (f := F 3) rfl rfl (by omega) (by omega) dX0_whyNot_139 ?_
  refine lv_if_eq (tgt := 147) hx hb dX0_whyNot_140 (by decide) (fun c140 => ?_) (fun c140 => ?_)
  · skip
    refine lv_bipush (v := 9) hx hb dX0_whyNot_147 (by decide) ?_
    refine hend _ _ _ _ _ ?_ hP hD hS dX0_whyNot_149
    unfold wn5; first | rw [if_pos c140] | rw [if_neg c140]
  · skip
    refine lv_iconst (v := 0) hx hb dX0_whyNot_143 (by decide) ?_
    refine lv_goto (tgt := 149) hx hb dX0_whyNot_144 (by decide) ?_
    refine hend _ _ _ _ _ ?_ hP hD hS dX0_whyNot_149
    unfold wn5; first | rw [if_pos c140] | rw [if_neg c140]

set_option maxHeartbeats 4000000 in
set_option maxRecDepth 100000 in
theorem c_X0_copyFrom (l : Launch) (D : va_G) (cI cZ cS cJ : ClassId) (h0 : Nat) (h1 : Nat) (h2 : Nat) (h3 : Nat) (h4 : Nat) (h5 : Nat) (h6 : Nat) (h7 : Nat) (F : Nat → Nat → Int32) (k0 : Nat) (k1 : Nat) (k2 : Nat) (k3 : Nat) (k4 : Nat) (k5 : Nat) (k6 : Nat) (k7 : Nat) (G : Nat → Nat → Int32) (hB : ∀ r, r < 7 → G 3 r = 0 ∨ G 3 r = 1) : C0 l yX0_copyFrom wsX0_copyFrom ({ frames := 1, cells := 0, slots := 0, locals := 18 }) D (tyL cI cZ cS cJ) [.ref h0, .ref k0] (List.flatten [flX cI cZ h0 h1 h2 h3 h4 h5 h6 h7 (F 0) (F 1) (F 2) (F 3) (F 4) (F 5) (F 6), flX cI cZ k0 k1 k2 k3 k4 k5 k6 k7 (G 0) (G 1) (G 2) (G 3) (G 4) (G 5) (G 6)]) none (List.flatten [flX cI cZ h0 h1 h2 h3 h4 h5 h6 h7 (G 0) (G 1) (G 2) (G 3) (G 4) (G 5) (G 6), flX cI cZ k0 k1 k2 k3 k4 k5 k6 k7 (G 0) (G 1) (G 2) (G 3) (G 4) (G 5) (G 6)]) 0 0 := by
  refine C0_void (cc := cX0_copyFrom) (maxL := 2) (by decide) rfl (Nat.le_of_ble_eq_true rfl) ?_
  intro p e s m below meth c A ls Q X hnm hK hP hD hS hA hl hend
  have X : CallFix p m c cX0_copyFrom 2 s ([.ref h0, .ref k0] : List Value).toArray wsX0_copyFrom RX0 := X
  obtain ⟨hx, hb, hml, hown, hts⟩ := id X
  have hl : lv_has ls 2 [(0, .ref h0), (1, .ref k0)] := hl
  have hinX0 : ∀ w ∈ u_ws RX0 TX0 7, w ∈ wsX0_copyFrom := by decide +kernel
  refine lv_aload_n hx hb dX0_copyFrom_0 rfl (lv_at hl 1 rfl) ?_
  refine va_get (D := D) (ci := 0) (v := .ref k1) (C := RX0) (T := TX0) (N := 7) hx hb hts hinX0 hown hK hP 8 rfl rfl 0 (by decide) (hts (.fieldLink RX0 9 "RibbonBalloons$Flock" "gas" "[I") (by decide +kernel)) (fun _ h9 => h9) rfl dX0_copyFrom_1 ?_
  refine lv_iconst (v := 0) hx hb dX0_copyFrom_4 (by decide) ?_
  refine lv_aload_n hx hb dX0_copyFrom_5 rfl (lv_at hl 0 rfl) ?_
  refine va_get (D := D) (ci := 0) (v := .ref h1) (C := RX0) (T := TX0) (N := 7) hx hb hts hinX0 hown hK hP 0 rfl rfl 0 (by decide) (hts (.fieldLink RX0 9 "RibbonBalloons$Flock" "gas" "[I") (by decide +kernel)) (fun _ h9 => h9) rfl dX0_copyFrom_6 ?_
  refine lv_iconst (v := 0) hx hb dX0_copyFrom_9 (by decide) ?_
  refine lv_bipush (v := 8) hx hb dX0_copyFrom_10 (by decide) ?_
  refine r_copyi (wn := List.flatten [flX cI cZ h0 h1 h2 h3 h4 h5 h6 h7 (va_cpy (G 0) (F 0) 0 0 8) (F 1) (F 2) (F 3) (F 4) (F 5) (F 6), flX cI cZ k0 k1 k2 k3 k4 k5 k6 k7 (G 0) (G 1) (G 2) (G 3) (G 4) (G 5) (G 6)]) (f := G 0) (g := F 0) hx hb (hml.trans hl.1.symm) hown (hts (.methodLink RX0 43 arraycopyName) (by decide +kernel)) (hts (.native arraycopyName) (by decide +kernel)) (hts (.static arraycopyName) (by decide +kernel)) (hts (.initialized "java/lang/System") (by decide +kernel)) hK hP hD hS 9 1 0 0 0 8 rfl rfl rfl rfl (by decide) (by omega) (by omega) (by decide) (by decide) (fun _ _ => rfl) rfl (Nat.le_of_ble_eq_true rfl) (by decide) dX0_copyFrom_12 (fun H locs hP hD hS => ?_)
  obtain ⟨hP, hD⟩ := PD_cg hP hD 1 (G 0) rfl (cpy_all) (wn := List.flatten [flX cI cZ h0 h1 h2 h3 h4 h5 h6 h7 (G 0) (F 1) (F 2) (F 3) (F 4) (F 5) (F 6), flX cI cZ k0 k1 k2 k3 k4 k5 k6 k7 (G 0) (G 1) (G 2) (G 3) (G 4) (G 5) (G 6)]) rfl
  refine lv_aload_n hx hb dX0_copyFrom_15 rfl (lv_at hl 1 rfl) ?_
  refine va_get (D := D) (ci := 0) (v := .ref k2) (C := RX0) (T := TX0) (N := 7) hx hb hts hinX0 hown hK hP 8 rfl rfl 1 (by decide) (hts (.fieldLink RX0 15 "RibbonBalloons$Flock" "bags" "[I") (by decide +kernel)) (fun _ h9 => h9) rfl dX0_copyFrom_16 ?_
  refine lv_iconst (v := 0) hx hb dX0_copyFrom_19 (by decide) ?_
  refine lv_aload_n hx hb dX0_copyFrom_20 rfl (lv_at hl 0 rfl) ?_
  refine va_get (D := D) (ci := 0) (v := .ref h2) (C := RX0) (T := TX0) (N := 7) hx hb hts hinX0 hown hK hP 0 rfl rfl 1 (by decide) (hts (.fieldLink RX0 15 "RibbonBalloons$Flock" "bags" "[I") (by decide +kernel)) (fun _ h9 => h9) rfl dX0_copyFrom_21 ?_
  refine lv_iconst (v := 0) hx hb dX0_copyFrom_24 (by decide) ?_
  refine lv_bipush (v := 8) hx hb dX0_copyFrom_25 (by decide) ?_
  refine r_copyi (wn := List.flatten [flX cI cZ h0 h1 h2 h3 h4 h5 h6 h7 (G 0) (va_cpy (G 1) (F 1) 0 0 8) (F 2) (F 3) (F 4) (F 5) (F 6), flX cI cZ k0 k1 k2 k3 k4 k5 k6 k7 (G 0) (G 1) (G 2) (G 3) (G 4) (G 5) (G 6)]) (f := G 1) (g := F 1) hx hb (hml.trans hl.1.symm) hown (hts (.methodLink RX0 43 arraycopyName) (by decide +kernel)) (hts (.native arraycopyName) (by decide +kernel)) (hts (.static arraycopyName) (by decide +kernel)) (hts (.initialized "java/lang/System") (by decide +kernel)) hK hP hD hS 10 2 0 0 0 8 rfl rfl rfl rfl (by decide) (by omega) (by omega) (by decide) (by decide) (fun _ _ => rfl) rfl (Nat.le_of_ble_eq_true rfl) (by decide) dX0_copyFrom_27 (fun H locs hP hD hS => ?_)
  obtain ⟨hP, hD⟩ := PD_cg hP hD 2 (G 1) rfl (cpy_all) (wn := List.flatten [flX cI cZ h0 h1 h2 h3 h4 h5 h6 h7 (G 0) (G 1) (F 2) (F 3) (F 4) (F 5) (F 6), flX cI cZ k0 k1 k2 k3 k4 k5 k6 k7 (G 0) (G 1) (G 2) (G 3) (G 4) (G 5) (G 6)]) rfl
  refine lv_aload_n hx hb dX0_copyFrom_30 rfl (lv_at hl 1 rfl) ?_
  refine va_get (D := D) (ci := 0) (v := .ref k3) (C := RX0) (T := TX0) (N := 7) hx hb hts hinX0 hown hK hP 8 rfl rfl 2 (by decide) (hts (.fieldLink RX0 18 "RibbonBalloons$Flock" "leaks" "[I") (by decide +kernel)) (fun _ h9 => h9) rfl dX0_copyFrom_31 ?_
  refine lv_iconst (v := 0) hx hb dX0_copyFrom_34 (by decide) ?_
  refine lv_aload_n hx hb dX0_copyFrom_35 rfl (lv_at hl 0 rfl) ?_
  refine va_get (D := D) (ci := 0) (v := .ref h3) (C := RX0) (T := TX0) (N := 7) hx hb hts hinX0 hown hK hP 0 rfl rfl 2 (by decide) (hts (.fieldLink RX0 18 "RibbonBalloons$Flock" "leaks" "[I") (by decide +kernel)) (fun _ h9 => h9) rfl dX0_copyFrom_36 ?_
  refine lv_iconst (v := 0) hx hb dX0_copyFrom_39 (by decide) ?_
  refine lv_bipush (v := 8) hx hb dX0_copyFrom_40 (by decide) ?_
  refine r_copyi (wn := List.flatten [flX cI cZ h0 h1 h2 h3 h4 h5 h6 h7 (G 0) (G 1) (va_cpy (G 2) (F 2) 0 0 8) (F 3) (F 4) (F 5) (F 6), flX cI cZ k0 k1 k2 k3 k4 k5 k6 k7 (G 0) (G 1) (G 2) (G 3) (G 4) (G 5) (G 6)]) (f := G 2) (g := F 2) hx hb (hml.trans hl.1.symm) hown (hts (.methodLink RX0 43 arraycopyName) (by decide +kernel)) (hts (.native arraycopyName) (by decide +kernel)) (hts (.static arraycopyName) (by decide +kernel)) (hts (.initialized "java/lang/System") (by decide +kernel)) hK hP hD hS 11 3 0 0 0 8 rfl rfl rfl rfl (by decide) (by omega) (by omega) (by decide) (by decide) (fun _ _ => rfl) rfl (Nat.le_of_ble_eq_true rfl) (by decide) dX0_copyFrom_42 (fun H locs hP hD hS => ?_)
  obtain ⟨hP, hD⟩ := PD_cg hP hD 3 (G 2) rfl (cpy_all) (wn := List.flatten [flX cI cZ h0 h1 h2 h3 h4 h5 h6 h7 (G 0) (G 1) (G 2) (F 3) (F 4) (F 5) (F 6), flX cI cZ k0 k1 k2 k3 k4 k5 k6 k7 (G 0) (G 1) (G 2) (G 3) (G 4) (G 5) (G 6)]) rfl
  refine lv_aload_n hx hb dX0_copyFrom_45 rfl (lv_at hl 1 rfl) ?_
  refine va_get (D := D) (ci := 0) (v := .ref k4) (C := RX0) (T := TX0) (N := 7) hx hb hts hinX0 hown hK hP 8 rfl rfl 3 (by decide) (hts (.fieldLink RX0 21 "RibbonBalloons$Flock" "tied" "[Z") (by decide +kernel)) (fun _ h9 => h9) rfl dX0_copyFrom_46 ?_
  refine lv_iconst (v := 0) hx hb dX0_copyFrom_49 (by decide) ?_
  refine lv_aload_n hx hb dX0_copyFrom_50 rfl (lv_at hl 0 rfl) ?_
  refine va_get (D := D) (ci := 0) (v := .ref h4) (C := RX0) (T := TX0) (N := 7) hx hb hts hinX0 hown hK hP 0 rfl rfl 3 (by decide) (hts (.fieldLink RX0 21 "RibbonBalloons$Flock" "tied" "[Z") (by decide +kernel)) (fun _ h9 => h9) rfl dX0_copyFrom_51 ?_
  refine lv_iconst (v := 0) hx hb dX0_copyFrom_54 (by decide) ?_
  refine lv_bipush (v := 7) hx hb dX0_copyFrom_55 (by decide) ?_
  refine r_copyi (wn := List.flatten [flX cI cZ h0 h1 h2 h3 h4 h5 h6 h7 (G 0) (G 1) (G 2) (va_cpy (G 3) (F 3) 0 0 7) (F 4) (F 5) (F 6), flX cI cZ k0 k1 k2 k3 k4 k5 k6 k7 (G 0) (G 1) (G 2) (G 3) (G 4) (G 5) (G 6)]) (f := G 3) (g := F 3) hx hb (hml.trans hl.1.symm) hown (hts (.methodLink RX0 43 arraycopyName) (by decide +kernel)) (hts (.native arraycopyName) (by decide +kernel)) (hts (.static arraycopyName) (by decide +kernel)) (hts (.initialized "java/lang/System") (by decide +kernel)) hK hP hD hS 12 4 1 0 0 7 rfl rfl rfl rfl (by decide) (by omega) (by omega) (by decide) (by decide) (fun i hi => fit01 (hB (0 + i) (by omega))) rfl (Nat.le_of_ble_eq_true rfl) (by decide) dX0_copyFrom_57 (fun H locs hP hD hS => ?_)
  obtain ⟨hP, hD⟩ := PD_cg hP hD 4 (G 3) rfl (cpy_all) (wn := List.flatten [flX cI cZ h0 h1 h2 h3 h4 h5 h6 h7 (G 0) (G 1) (G 2) (G 3) (F 4) (F 5) (F 6), flX cI cZ k0 k1 k2 k3 k4 k5 k6 k7 (G 0) (G 1) (G 2) (G 3) (G 4) (G 5) (G 6)]) rfl
  refine lv_aload_n hx hb dX0_copyFrom_60 rfl (lv_at hl 1 rfl) ?_
  refine va_get (D := D) (ci := 0) (v := .ref k5) (C := RX0) (T := TX0) (N := 7) hx hb hts hinX0 hown hK hP 8 rfl rfl 4 (by decide) (hts (.fieldLink RX0 25 "RibbonBalloons$Flock" "lengths" "[I") (by decide +kernel)) (fun _ h9 => h9) rfl dX0_copyFrom_61 ?_
  refine lv_iconst (v := 0) hx hb dX0_copyFrom_64 (by decide) ?_
  refine lv_aload_n hx hb dX0_copyFrom_65 rfl (lv_at hl 0 rfl) ?_
  refine va_get (D := D) (ci := 0) (v := .ref h5) (C := RX0) (T := TX0) (N := 7) hx hb hts hinX0 hown hK hP 0 rfl rfl 4 (by decide) (hts (.fieldLink RX0 25 "RibbonBalloons$Flock" "lengths" "[I") (by decide +kernel)) (fun _ h9 => h9) rfl dX0_copyFrom_66 ?_
  refine lv_iconst (v := 0) hx hb dX0_copyFrom_69 (by decide) ?_
  refine lv_bipush (v := 7) hx hb dX0_copyFrom_70 (by decide) ?_
  refine r_copyi (wn := List.flatten [flX cI cZ h0 h1 h2 h3 h4 h5 h6 h7 (G 0) (G 1) (G 2) (G 3) (va_cpy (G 4) (F 4) 0 0 7) (F 5) (F 6), flX cI cZ k0 k1 k2 k3 k4 k5 k6 k7 (G 0) (G 1) (G 2) (G 3) (G 4) (G 5) (G 6)]) (f := G 4) (g := F 4) hx hb (hml.trans hl.1.symm) hown (hts (.methodLink RX0 43 arraycopyName) (by decide +kernel)) (hts (.native arraycopyName) (by decide +kernel)) (hts (.static arraycopyName) (by decide +kernel)) (hts (.initialized "java/lang/System") (by decide +kernel)) hK hP hD hS 13 5 0 0 0 7 rfl rfl rfl rfl (by decide) (by omega) (by omega) (by decide) (by decide) (fun _ _ => rfl) rfl (Nat.le_of_ble_eq_true rfl) (by decide) dX0_copyFrom_72 (fun H locs hP hD hS => ?_)
  obtain ⟨hP, hD⟩ := PD_cg hP hD 5 (G 4) rfl (cpy_all) (wn := List.flatten [flX cI cZ h0 h1 h2 h3 h4 h5 h6 h7 (G 0) (G 1) (G 2) (G 3) (G 4) (F 5) (F 6), flX cI cZ k0 k1 k2 k3 k4 k5 k6 k7 (G 0) (G 1) (G 2) (G 3) (G 4) (G 5) (G 6)]) rfl
  refine lv_aload_n hx hb dX0_copyFrom_75 rfl (lv_at hl 1 rfl) ?_
  refine va_get (D := D) (ci := 0) (v := .ref k6) (C := RX0) (T := TX0) (N := 7) hx hb hts hinX0 hown hK hP 8 rfl rfl 5 (by decide) (hts (.fieldLink RX0 28 "RibbonBalloons$Flock" "bears" "[I") (by decide +kernel)) (fun _ h9 => h9) rfl dX0_copyFrom_76 ?_
  refine lv_iconst (v := 0) hx hb dX0_copyFrom_79 (by decide) ?_
  refine lv_aload_n hx hb dX0_copyFrom_80 rfl (lv_at hl 0 rfl) ?_
  refine va_get (D := D) (ci := 0) (v := .ref h6) (C := RX0) (T := TX0) (N := 7) hx hb hts hinX0 hown hK hP 0 rfl rfl 5 (by decide) (hts (.fieldLink RX0 28 "RibbonBalloons$Flock" "bears" "[I") (by decide +kernel)) (fun _ h9 => h9) rfl dX0_copyFrom_81 ?_
  refine lv_iconst (v := 0) hx hb dX0_copyFrom_84 (by decide) ?_
  refine lv_bipush (v := 7) hx hb dX0_copyFrom_85 (by decide) ?_
  refine r_copyi (wn := List.flatten [flX cI cZ h0 h1 h2 h3 h4 h5 h6 h7 (G 0) (G 1) (G 2) (G 3) (G 4) (va_cpy (G 5) (F 5) 0 0 7) (F 6), flX cI cZ k0 k1 k2 k3 k4 k5 k6 k7 (G 0) (G 1) (G 2) (G 3) (G 4) (G 5) (G 6)]) (f := G 5) (g := F 5) hx hb (hml.trans hl.1.symm) hown (hts (.methodLink RX0 43 arraycopyName) (by decide +kernel)) (hts (.native arraycopyName) (by decide +kernel)) (hts (.static arraycopyName) (by decide +kernel)) (hts (.initialized "java/lang/System") (by decide +kernel)) hK hP hD hS 14 6 0 0 0 7 rfl rfl rfl rfl (by decide) (by omega) (by omega) (by decide) (by decide) (fun _ _ => rfl) rfl (Nat.le_of_ble_eq_true rfl) (by decide) dX0_copyFrom_87 (fun H locs hP hD hS => ?_)
  obtain ⟨hP, hD⟩ := PD_cg hP hD 6 (G 5) rfl (cpy_all) (wn := List.flatten [flX cI cZ h0 h1 h2 h3 h4 h5 h6 h7 (G 0) (G 1) (G 2) (G 3) (G 4) (G 5) (F 6), flX cI cZ k0 k1 k2 k3 k4 k5 k6 k7 (G 0) (G 1) (G 2) (G 3) (G 4) (G 5) (G 6)]) rfl
  refine lv_aload_n hx hb dX0_copyFrom_90 rfl (lv_at hl 1 rfl) ?_
  refine va_get (D := D) (ci := 0) (v := .ref k7) (C := RX0) (T := TX0) (N := 7) hx hb hts hinX0 hown hK hP 8 rfl rfl 6 (by decide) (hts (.fieldLink RX0 31 "RibbonBalloons$Flock" "heights" "[I") (by decide +kernel)) (fun _ h9 => h9) rfl dX0_copyFrom_91 ?_
  refine lv_iconst (v := 0) hx hb dX0_copyFrom_94 (by decide) ?_
  refine lv_aload_n hx hb dX0_copyFrom_95 rfl (lv_at hl 0 rfl) ?_
  refine va_get (D := D) (ci := 0) (v := .ref h7) (C := RX0) (T := TX0) (N := 7) hx hb hts hinX0 hown hK hP 0 rfl rfl 6 (by decide) (hts (.fieldLink RX0 31 "RibbonBalloons$Flock" "heights" "[I") (by decide +kernel)) (fun _ h9 => h9) rfl dX0_copyFrom_96 ?_
  refine lv_iconst (v := 0) hx hb dX0_copyFrom_99 (by decide) ?_
  refine lv_bipush (v := 8) hx hb dX0_copyFrom_100 (by decide) ?_
  refine r_copyi (wn := List.flatten [flX cI cZ h0 h1 h2 h3 h4 h5 h6 h7 (G 0) (G 1) (G 2) (G 3) (G 4) (G 5) (va_cpy (G 6) (F 6) 0 0 8), flX cI cZ k0 k1 k2 k3 k4 k5 k6 k7 (G 0) (G 1) (G 2) (G 3) (G 4) (G 5) (G 6)]) (f := G 6) (g := F 6) hx hb (hml.trans hl.1.symm) hown (hts (.methodLink RX0 43 arraycopyName) (by decide +kernel)) (hts (.native arraycopyName) (by decide +kernel)) (hts (.static arraycopyName) (by decide +kernel)) (hts (.initialized "java/lang/System") (by decide +kernel)) hK hP hD hS 15 7 0 0 0 8 rfl rfl rfl rfl (by decide) (by omega) (by omega) (by decide) (by decide) (fun _ _ => rfl) rfl (Nat.le_of_ble_eq_true rfl) (by decide) dX0_copyFrom_102 (fun H locs hP hD hS => ?_)
  obtain ⟨hP, hD⟩ := PD_cg hP hD 7 (G 6) rfl (cpy_all) (wn := List.flatten [flX cI cZ h0 h1 h2 h3 h4 h5 h6 h7 (G 0) (G 1) (G 2) (G 3) (G 4) (G 5) (G 6), flX cI cZ k0 k1 k2 k3 k4 k5 k6 k7 (G 0) (G 1) (G 2) (G 3) (G 4) (G 5) (G 6)]) rfl
  exact hend _ _ _ _ hP hD hS dX0_copyFrom_105

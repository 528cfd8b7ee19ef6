set_option maxHeartbeats 4000000 in
set_option maxRecDepth 100000 in
theorem c_X7_mix (l : Launch) (D : va_G) (cI cZ cS cJ : ClassId) (m0 : Nat) (m1 : Nat) (m2 : Nat) (m3 : Nat) (th : Int32) (sv : Int32) (kp : Int32) (ln : Int32) (ca : Int32) (lt : Int32) (fi : Int32) (sd : Int32) (hs : Int64) (B : Nat → Nat → Nat → Int32) (T : Nat → Int32) (h : Nat → Int32) (v : Int64)  : C0 l yX7_mix wsX7_mix ({ frames := 0, cells := 0, slots := 0, locals := 0 }) D (tyL cI cZ cS cJ) [.ref m0, .long v] (List.flatten [mdO m0 m1 m2 m3 th sv kp ln ca lt fi sd hs, arC cI m1 1170 (enc B), arC cI m2 60 T, arC cI m3 8 h]) none (List.flatten [mdO m0 m1 m2 m3 th sv kp ln ca lt fi sd ((31 * hs) + v), arC cI m1 1170 (enc B), arC cI m2 60 T, arC cI m3 8 h]) 0 0 := by
  refine C0_void (cc := cX7_mix) (maxL := 3) (by decide) rfl (Nat.le_of_ble_eq_true rfl) ?_
  intro p e s m below meth c A ls Q X hnm hK hP hD hS hA hl hend
  have X : CallFix p m c cX7_mix 3 s ([.ref m0, .long v] : List Value).toArray wsX7_mix RX7 := X
  obtain ⟨hx, hb, hml, hown, hts⟩ := id X
  have hl : lv_has ls 3 [(0, .ref m0), (1, .long v)] := hl
  have hinX7 : ∀ w ∈ u_ws RX7 TX7 12, w ∈ wsX7_mix := by decide +kernel
  refine lv_aload_n hx hb dX7_mix_0 rfl (lv_at hl 0 rfl) ?_
  refine lv_ldc2 (v := 31) hx hb hown (hts (.constantLong RX7 243 31) (by decide +kernel)) dX7_mix_1 ?_
  refine lv_aload_n hx hb dX7_mix_4 rfl (lv_at hl 0 rfl) ?_
  refine va_get (D := D) (ci := 7) (v := .long hs) (C := RX7) (T := TX7) (N := 12) hx hb hts hinX7 hown hK hP 0 rfl rfl 11 (by decide) (hts (.fieldLink RX7 245 "RibbonBalloonsModel" "hash" "J") (by decide +kernel)) (fun _ h9 => h9) rfl dX7_mix_5 ?_
  refine lv_lmul hx hb dX7_mix_8 ?_
  refine lv_lload_n hx hb dX7_mix_9 rfl (lv_at hl 1 rfl) ?_
  refine lv_ladd hx hb dX7_mix_10 ?_
  refine va_put (D := D) (ci := 7) (v := .long ((31 * hs) + v)) (ty := .long) (C := RX7) (T := TX7) (N := 12) hx hb hts hinX7 tyX7 tyX7_ok nmX7 hown hK hP hD hS 0 rfl rfl 11 (by decide) (hts (.fieldLink RX7 245 "RibbonBalloonsModel" "hash" "J") (by decide +kernel)) (fun _ h9 => h9) rfl (by decide +kernel) rfl rfl (Nat.le_of_ble_eq_true rfl) dX7_mix_11 (fun H locs hP hD hS => ?_)
  have hP : va_P D vwCl (List.flatten [mdO m0 m1 m2 m3 th sv kp ln ca lt fi sd ((31 * hs) + v), arC cI m1 1170 (enc B), arC cI m2 60 T, arC cI m3 8 h]) _ := hP
  have hD : va_D A (List.flatten [mdO m0 m1 m2 m3 th sv kp ln ca lt fi sd ((31 * hs) + v), arC cI m1 1170 (enc B), arC cI m2 60 T, arC cI m3 8 h]) := hD
  exact hend _ _ _ _ hP hD hS dX7_mix_14

set_option maxHeartbeats 4000000 in
set_option maxRecDepth 100000 in
theorem c_X7_mean (l : Launch) (D : va_G) (cI cZ cS cJ : ClassId) (m0 : Nat) (m1 : Nat) (m2 : Nat) (m3 : Nat) (th : Int32) (sv : Int32) (kp : Int32) (ln : Int32) (ca : Int32) (lt : Int32) (fi : Int32) (sd : Int32) (hs : Int64) (B : Nat → Nat → Nat → Int32) (T : Nat → Int32) (h : Nat → Int32) (hG : GB (B 0)) : CE (U := (Nat → Int32)) l yX7_mean wsX7_mean ({ frames := 5, cells := 0, slots := 0, locals := 113 }) D (tyL cI cZ cS cJ) [.ref m0] (List.flatten [mdO m0 m1 m2 m3 th sv kp ln ca lt fi sd hs, arC cI m1 1170 (enc B), arC cI m2 60 T, arC cI m3 8 h]) (fun u => True) (fun u => some (.double (mnD (hsm (B 0))))) (fun u => List.flatten [mdO m0 m1 m2 m3 th sv kp ln ca lt fi sd hs, arC cI m1 1170 (enc B), arC cI m2 60 T, arC cI m3 8 u]) 0 0 := by
  refine CE_double (cc := cX7_mean) (maxL := 1) (by decide) rfl (Nat.le_of_ble_eq_true rfl) ?_
  intro p e s m below meth c A ls Q X hK hP hD hS hA hl hend
  have X : CallFix p m c cX7_mean 1 s ([.ref m0] : List Value).toArray wsX7_mean RX7 := X
  obtain ⟨hx, hb, hml, hown, hts⟩ := id X
  have hl : lv_has ls 1 [(0, .ref m0)] := hl
  refine lv_aload_n hx hb dX7_mean_0 rfl (lv_at hl 0 rfl) ?_
  refine lv_iconst (v := 0) hx hb dX7_mean_1 (by decide) ?_
  refine lv_eqi (y := nI (130 * 0)) (rfl) ?_
  refine kcallV (As := [.int (nI (130 * 0))]) (rest := []) (Wn := [mdO m0 m1 m2 m3 th sv kp ln ca lt fi sd hs, arC cI m1 1170 (enc B), arC cI m2 60 T, arC cI m3 8 (ht (B 0))]) X (c_X7_allHeights l D cI cZ cS cJ m0 m1 m2 m3 th sv kp ln ca lt fi sd hs B T h 0 (by omega) (GB_T hG)) (cwV 1 hts gX7_mean_X7_allHeights rfl rfl rfl (by decide +kernel) ⟨Nat.le_of_ble_eq_true rfl, Nat.le_of_ble_eq_true rfl⟩) hK hP hD hS hA [0, 1, 2, 3] rfl (by decide +kernel) rfl rfl rfl 0 7 rfl rfl rfl hl.1 rfl (Nat.le_of_ble_eq_true rfl) dX7_mean_2 ⟨Nat.le_of_ble_eq_true rfl, Nat.le_of_ble_eq_true rfl⟩ (fun H locs hP hD hS => ?_)
  refine lv_i2d hx hb dX7_mean_5 ?_
  refine lv_ldc2d (v := 4620693217682128896) hx hb hown (hts (.constantDouble RX7 233 4620693217682128896) (by decide +kernel)) dX7_mean_6 ?_
  refine lv_ddiv hx hb dX7_mean_9 (okM_of (hsm_in hG)).1 ?_
  refine hend (ht (B 0)) _ _ _ _ _ trivial ?_ hP hD hS dX7_mean_10
  exact rfl

set_option maxHeartbeats 4000000 in
set_option maxRecDepth 100000 in
theorem c_X7_meanHeight (l : Launch) (D : va_G) (cI cZ cS cJ : ClassId) (m0 : Nat) (m1 : Nat) (m2 : Nat) (m3 : Nat) (th : Int32) (sv : Int32) (kp : Int32) (ln : Int32) (ca : Int32) (lt : Int32) (fi : Int32) (sd : Int32) (hs : Int64) (B : Nat → Nat → Nat → Int32) (T : Nat → Int32) (h : Nat → Int32) (hG : GB (B 0)) : CE (U := (Nat → Int32)) l yX7_meanHeight wsX7_meanHeight ({ frames := 6, cells := 0, slots := 0, locals := 133 }) D (tyL cI cZ cS cJ) [.ref m0] (List.flatten [mdO m0 m1 m2 m3 th sv kp ln ca lt fi sd hs, arC cI m1 1170 (enc B), arC cI m2 60 T, arC cI m3 8 h]) (fun u => True) (fun u => some (.double (mnD (hsm (B 0))))) (fun u => List.flatten [mdO m0 m1 m2 m3 0 sv kp ln ca lt fi sd hs, arC cI m1 1170 (enc B), arC cI m2 60 T, arC cI m3 8 u]) 0 0 := by
  refine CE_double (cc := cX7_meanHeight) (maxL := 1) (by decide) rfl (Nat.le_of_ble_eq_true rfl) ?_
  intro p e s m below meth c A ls Q X hK hP hD hS hA hl hend
  have X : CallFix p m c cX7_meanHeight 1 s ([.ref m0] : List Value).toArray wsX7_meanHeight RX7 := X
  obtain ⟨hx, hb, hml, hown, hts⟩ := id X
  have hl : lv_has ls 1 [(0, .ref m0)] := hl
  have hinX7 : ∀ w ∈ u_ws RX7 TX7 12, w ∈ wsX7_meanHeight := by decide +kernel
  refine lv_aload_n hx hb dX7_meanHeight_0 rfl (lv_at hl 0 rfl) ?_
  refine lv_iconst (v := 0) hx hb dX7_meanHeight_1 (by decide) ?_
  refine va_put (D := D) (ci := 7) (v := .int 0) (ty := .int) (C := RX7) (T := TX7) (N := 12) hx hb hts hinX7 tyX7 tyX7_ok nmX7 hown hK hP hD hS 0 rfl rfl 0 (by decide) (hts (.fieldLink RX7 19 "RibbonBalloonsModel" "thrown" "I") (by decide +kernel)) (fun _ h9 => h9) rfl (by decide +kernel) rfl rfl (Nat.le_of_ble_eq_true rfl) dX7_meanHeight_2 (fun H locs hP hD hS => ?_)
  have hP : va_P D vwCl (List.flatten [mdO m0 m1 m2 m3 0 sv kp ln ca lt fi sd hs, arC cI m1 1170 (enc B), arC cI m2 60 T, arC cI m3 8 h]) _ := hP
  have hD : va_D A (List.flatten [mdO m0 m1 m2 m3 0 sv kp ln ca lt fi sd hs, arC cI m1 1170 (enc B), arC cI m2 60 T, arC cI m3 8 h]) := hD
  refine lv_aload_n hx hb dX7_meanHeight_5 rfl (lv_at hl 0 rfl) ?_
  refine kcallVE (As := []) (rest := []) (Wn := fun u => [mdO m0 m1 m2 m3 0 sv kp ln ca lt fi sd hs, arC cI m1 1170 (enc B), arC cI m2 60 T, arC cI m3 8 u]) X (c_X7_mean l D cI cZ cS cJ m0 m1 m2 m3 0 sv kp ln ca lt fi sd hs B T h hG) (cwV 0 hts gX7_meanHeight_X7_mean rfl rfl rfl (by decide +kernel) ⟨Nat.le_of_ble_eq_true rfl, Nat.le_of_ble_eq_true rfl⟩) hK hP hD hS hA [0, 1, 2, 3] rfl (by decide +kernel) (fun _ => rfl) (fun _ => rfl) (fun _ => rfl) 0 7 rfl rfl rfl hl.1 rfl (Nat.le_of_ble_eq_true rfl) dX7_meanHeight_6 ⟨Nat.le_of_ble_eq_true rfl, Nat.le_of_ble_eq_true rfl⟩ (fun h9_1 H locs hu hP hD hS => ?_)
  have hP : va_P D vwCl (List.flatten [mdO m0 m1 m2 m3 0 sv kp ln ca lt fi sd hs, arC cI m1 1170 (enc B), arC cI m2 60 T, arC cI m3 8 h9_1]) _ := hP
  have hD : va_D A (List.flatten [mdO m0 m1 m2 m3 0 sv kp ln ca lt fi sd hs, arC cI m1 1170 (enc B), arC cI m2 60 T, arC cI m3 8 h9_1]) := hD
  refine hend (h9_1) _ _ _ _ _ trivial ?_ hP hD hS dX7_meanHeight_9
  exact rfl

set_option maxHeartbeats 4000000 in
set_option maxRecDepth 100000 in
theorem c_X7_lost (l : Launch) (D : va_G) (cI cZ cS cJ : ClassId) (m0 : Nat) (m1 : Nat) (m2 : Nat) (m3 : Nat) (th : Int32) (sv : Int32) (kp : Int32) (ln : Int32) (ca : Int32) (lt : Int32) (fi : Int32) (sd : Int32) (hs : Int64) (B : Nat → Nat → Nat → Int32) (T : Nat → Int32) (h : Nat → Int32) (hL : vf_n32 (lsF (B 0))) : C0 l yX7_lost wsX7_lost ({ frames := 0, cells := 0, slots := 0, locals := 0 }) D (tyL cI cZ cS cJ) [.ref m0] (List.flatten [mdO m0 m1 m2 m3 th sv kp ln ca lt fi sd hs, arC cI m1 1170 (enc B), arC cI m2 60 T, arC cI m3 8 h]) (some (.float (lsF (B 0)))) (List.flatten [mdO m0 m1 m2 m3 th sv kp ln ca lt fi sd hs, arC cI m1 1170 (enc B), arC cI m2 60 T, arC cI m3 8 h]) 0 0 := by
  refine C0_float (cc := cX7_lost) (maxL := 1) (by decide) rfl (Nat.le_of_ble_eq_true rfl) ?_
  intro p e s m below meth c A ls Q X hK hP hD hS hA hl hend
  have X : CallFix p m c cX7_lost 1 s ([.ref m0] : List Value).toArray wsX7_lost RX7 := X
  obtain ⟨hx, hb, hml, hown, hts⟩ := id X
  have hl : lv_has ls 1 [(0, .ref m0)] := hl
  have hinX7 : ∀ w ∈ u_ws RX7 TX7 12, w ∈ wsX7_lost := by decide +kernel
  refine lv_aload_n hx hb dX7_lost_0 rfl (lv_at hl 0 rfl) ?_
  refine va_get (D := D) (ci := 7) (v := .ref m1) (C := RX7) (T := TX7) (N := 12) hx hb hts hinX7 hown hK hP 0 rfl rfl 1 (by decide) (hts (.fieldLink RX7 7 "RibbonBalloonsModel" "s" "[I") (by decide +kernel)) (fun _ h9 => h9) rfl dX7_lost_1 ?_
  refine lv_iconst (v := 2) hx hb dX7_lost_4 (by decide) ?_
  refine r_iald hx hb hK hP 1 0 2 (f := enc B) rfl rfl (by omega) (by omega) dX7_lost_5 ?_
  refine lv_eqi (y := B 0 12 2) (enc_at0 B (by decide)) ?_
  refine lv_aload_n hx hb dX7_lost_6 rfl (lv_at hl 0 rfl) ?_
  refine va_get (D := D) (ci := 7) (v := .ref m1) (C := RX7) (T := TX7) (N := 12) hx hb hts hinX7 hown hK hP 0 rfl rfl 1 (by decide) (hts (.fieldLink RX7 7 "RibbonBalloonsModel" "s" "[I") (by decide +kernel)) (fun _ h9 => h9) rfl dX7_lost_7 ?_
  refine lv_iconst (v := 3) hx hb dX7_lost_10 (by decide) ?_
  refine r_iald hx hb hK hP 1 0 3 (f := enc B) rfl rfl (by omega) (by omega) dX7_lost_11 ?_
  refine lv_eqi (y := B 0 12 3) (enc_at0 B (by decide)) ?_
  refine lv_iadd hx hb dX7_lost_12 ?_
  refine lv_i2f hx hb dX7_lost_13 ?_
  refine lv_sipush (v := 480) hx hb dX7_lost_14 (by decide) ?_
  refine lv_aload_n hx hb dX7_lost_17 rfl (lv_at hl 0 rfl) ?_
  refine va_get (D := D) (ci := 7) (v := .ref m1) (C := RX7) (T := TX7) (N := 12) hx hb hts hinX7 hown hK hP 0 rfl rfl 1 (by decide) (hts (.fieldLink RX7 7 "RibbonBalloonsModel" "s" "[I") (by decide +kernel)) (fun _ h9 => h9) rfl dX7_lost_18 ?_
  refine lv_iconst (v := 1) hx hb dX7_lost_21 (by decide) ?_
  refine r_iald hx hb hK hP 1 0 1 (f := enc B) rfl rfl (by omega) (by omega) dX7_lost_22 ?_
  refine lv_eqi (y := B 0 12 1) (enc_at0 B (by decide)) ?_
  refine lv_iadd hx hb dX7_lost_23 ?_
  refine lv_i2f hx hb dX7_lost_24 ?_
  refine lv_fdiv hx hb dX7_lost_25 hL ?_
  refine hend _ _ _ _ _ ?_ hP hD hS dX7_lost_26
  exact rfl

set_option maxHeartbeats 4000000 in
set_option maxRecDepth 100000 in
theorem c_X7_lostShare (l : Launch) (D : va_G) (cI cZ cS cJ : ClassId) (m0 : Nat) (m1 : Nat) (m2 : Nat) (m3 : Nat) (th : Int32) (sv : Int32) (kp : Int32) (ln : Int32) (ca : Int32) (lt : Int32) (fi : Int32) (sd : Int32) (hs : Int64) (B : Nat → Nat → Nat → Int32) (T : Nat → Int32) (h : Nat → Int32) (hL : vf_n32 (lsF (B 0))) : C0 l yX7_lostShare wsX7_lostShare ({ frames := 1, cells := 0, slots := 0, locals := 20 }) D (tyL cI cZ cS cJ) [.ref m0] (List.flatten [mdO m0 m1 m2 m3 th sv kp ln ca lt fi sd hs, arC cI m1 1170 (enc B), arC cI m2 60 T, arC cI m3 8 h]) (some (.float (lsF (B 0)))) (List.flatten [mdO m0 m1 m2 m3 0 sv kp ln ca lt fi sd hs, arC cI m1 1170 (enc B), arC cI m2 60 T, arC cI m3 8 h]) 0 0 := by
  refine C0_float (cc := cX7_lostShare) (maxL := 1) (by decide) rfl (Nat.le_of_ble_eq_true rfl) ?_
  intro p e s m below meth c A ls Q X hK hP hD hS hA hl hend
  have X : CallFix p m c cX7_lostShare 1 s ([.ref m0] : List Value).toArray wsX7_lostShare RX7 := X
  obtain ⟨hx, hb, hml, hown, hts⟩ := id X
  have hl : lv_has ls 1 [(0, .ref m0)] := hl
  have hinX7 : ∀ w ∈ u_ws RX7 TX7 12, w ∈ wsX7_lostShare := by decide +kernel
  refine lv_aload_n hx hb dX7_lostShare_0 rfl (lv_at hl 0 rfl) ?_
  refine lv_iconst (v := 0) hx hb dX7_lostShare_1 (by decide) ?_
  refine va_put (D := D) (ci := 7) (v := .int 0) (ty := .int) (C := RX7) (T := TX7) (N := 12) hx hb hts hinX7 tyX7 tyX7_ok nmX7 hown hK hP hD hS 0 rfl rfl 0 (by decide) (hts (.fieldLink RX7 19 "RibbonBalloonsModel" "thrown" "I") (by decide +kernel)) (fun _ h9 => h9) rfl (by decide +kernel) rfl rfl (Nat.le_of_ble_eq_true rfl) dX7_lostShare_2 (fun H locs hP hD hS => ?_)
  have hP : va_P D vwCl (List.flatten [mdO m0 m1 m2 m3 0 sv kp ln ca lt fi sd hs, arC cI m1 1170 (enc B), arC cI m2 60 T, arC cI m3 8 h]) _ := hP
  have hD : va_D A (List.flatten [mdO m0 m1 m2 m3 0 sv kp ln ca lt fi sd hs, arC cI m1 1170 (enc B), arC cI m2 60 T, arC cI m3 8 h]) := hD
  refine lv_aload_n hx hb dX7_lostShare_5 rfl (lv_at hl 0 rfl) ?_
  refine kcallV (As := []) (rest := []) (Wn := [mdO m0 m1 m2 m3 0 sv kp ln ca lt fi sd hs, arC cI m1 1170 (enc B), arC cI m2 60 T, arC cI m3 8 h]) X (c_X7_lost l D cI cZ cS cJ m0 m1 m2 m3 0 sv kp ln ca lt fi sd hs B T h hL) (cwV 0 hts gX7_lostShare_X7_lost rfl rfl rfl (by decide +kernel) ⟨Nat.le_of_ble_eq_true rfl, Nat.le_of_ble_eq_true rfl⟩) hK hP hD hS hA [0, 1, 2, 3] rfl (by decide +kernel) rfl rfl rfl 0 7 rfl rfl rfl hl.1 rfl (Nat.le_of_ble_eq_true rfl) dX7_lostShare_6 ⟨Nat.le_of_ble_eq_true rfl, Nat.le_of_ble_eq_true rfl⟩ (fun H locs hP hD hS => ?_)
  refine hend _ _ _ _ _ ?_ hP hD hS dX7_lostShare_9
  exact rfl

set_option maxHeartbeats 4000000 in
set_option maxRecDepth 100000 in
theorem c_X7_bits (l : Launch) (D : va_G) (cI cZ cS cJ : ClassId) (v : UInt64) (hv : okD v = true) : C0 l yX7_bits wsX7_bits ({ frames := 0, cells := 0, slots := 0, locals := 0 }) D (tyL cI cZ cS cJ) [.double v] (List.flatten []) (some (.long (bitD v))) (List.flatten []) 0 0 := by
  refine C0_long (cc := cX7_bits) (maxL := 6) (by decide) rfl (Nat.le_of_ble_eq_true rfl) ?_
  intro p e s m below meth c A ls Q X hK hP hD hS hA hl hend
  have X : CallFix p m c cX7_bits 6 s ([.double v] : List Value).toArray wsX7_bits RX7 := X
  obtain ⟨hx, hb, hml, hown, hts⟩ := id X
  have hl : lv_has ls 6 [(0, .double v)] := hl
  refine lv_dload_n hx hb dX7_bits_0 rfl (lv_at hl 0 rfl) ?_
  refine lv_dconst0 hx hb dX7_bits_1 ?_
  refine lv_dcmp hx hb dX7_bits_2 ?_
  refine lv_if_ne (tgt := 8) hx hb dX7_bits_3 (by decide) (fun c3 => ?_) (fun c3 => ?_)
  · skip
    obtain ⟨ho1, ho2, ho3, ho4, -⟩ := okD_y hv c3
    refine lv_dload_n hx hb dX7_bits_8 rfl (lv_at hl 0 rfl) ?_
    refine lv_dstore_n (lv' := [(2, .double v), (0, .double v)]) hx hb dX7_bits_9 rfl hl (by decide) rfl (fun ls hl => ?_)
    refine lv_ldc2 (v := 1023) hx hb hown (hts (.constantLong RX7 249 1023) (by decide +kernel)) dX7_bits_10 ?_
    refine lv_lstore (lv' := [(4, .long 1023), (2, .double v), (0, .double v)]) hx hb dX7_bits_13 hl (by decide) rfl (fun ls hl => ?_)
    have lp_15 : ∀ (nn : Nat) (f : Nat) (rr : UInt64) (k : Nat), True → (hvO f rr = true) → (hvR f rr = hvR 14 v) → (hvN f rr + k = hvN 14 v) → f < nn → ∀ (H : Heap) (locs : List Loc) (ls : Array Slot), va_P D vwCl (List.flatten []) H → va_D A (List.flatten []) → va_S A s.heap H locs → lv_has ls 6 [(0, .double v), (2, .double rr), (4, .long (1023 + (lN k)))] → W p l e ({ frames := 0, cells := 0, slots := 0, locals := 0 } : Room) s m ([.double v] : List Value).toArray below meth c H locs 0 0 Q (F0 m 15 ls []) := by
      intro nn
      induction nn with
      | zero => intro f rr k _ hf hr hn hmz; exact absurd hmz (Nat.not_lt_zero _)
      | succ nn ih =>
        intro f rr k _ hf hr hn hms H locs ls hP hD hS hl
        refine lv_dload_n hx hb dX7_bits_15 rfl (lv_at hl 1 rfl) ?_
        refine lv_ldc2d (v := 4611686018427387904) hx hb hown (hts (.constantDouble RX7 251 4611686018427387904) (by decide +kernel)) dX7_bits_16 ?_
        refine lv_dcmp hx hb dX7_bits_19 ?_
        refine lv_if_lt (tgt := 38) hx hb dX7_bits_20 (by decide) (fun c20 => ?_) (fun c20 => ?_)
        · skip
          have lp_38 : ∀ (nn : Nat) (f2 : Nat) (r2 : UInt64) (k2 : Nat), True → (dbO f2 r2 = true) → (dbR f2 r2 = bdR v) → (dbN f2 r2 + k2 = dbN 12 (hvR 14 v)) → f2 < nn → ∀ (H : Heap) (locs : List Loc) (ls : Array Slot), va_P D vwCl (List.flatten []) H → va_D A (List.flatten []) → va_S A s.heap H locs → lv_has ls 6 [(0, .double v), (2, .double r2), (4, .long ((1023 + (lN (hvN 14 v))) - (lN k2)))] → W p l e ({ frames := 0, cells := 0, slots := 0, locals := 0 } : Room) s m ([.double v] : List Value).toArray below meth c H locs 0 0 Q (F0 m 38 ls []) := by
            intro nn
            induction nn with
            | zero => intro f2 r2 k2 _ hg hr2 hn2 hmz; exact absurd hmz (Nat.not_lt_zero _)
            | succ nn ih =>
              intro f2 r2 k2 _ hg hr2 hn2 hms H locs ls hP hD hS hl
              refine lv_dload_n hx hb dX7_bits_38 rfl (lv_at hl 1 rfl) ?_
              refine lv_dconst1 hx hb dX7_bits_39 ?_
              refine lv_dcmp hx hb dX7_bits_40 ?_
              refine lv_if_ge (tgt := 59) hx hb dX7_bits_41 (by decide) (fun c41 => ?_) (fun c41 => ?_)
              · skip
                have hgr := db_er hg hr2 c41
                have hgn := db_ek hg hn2 c41
                refine lv_lload hx hb dX7_bits_59 (lv_at hl 2 rfl) ?_
                refine lv_ldc2 (v := 4503599627370496) hx hb hown (hts (.constantLong RX7 253 4503599627370496) (by decide +kernel)) dX7_bits_61 ?_
                refine lv_lmul hx hb dX7_bits_64 ?_
                refine lv_dload_n hx hb dX7_bits_65 rfl (lv_at hl 1 rfl) ?_
                refine lv_dconst1 hx hb dX7_bits_66 ?_
                refine lv_dsub hx hb dX7_bits_67 (by rw [hgr]; exact ho3) ?_
                refine lv_ldc2d (v := 4841369599423283200) hx hb hown (hts (.constantDouble RX7 255 4841369599423283200) (by decide +kernel)) dX7_bits_68 ?_
                refine lv_dmul hx hb dX7_bits_71 (by rw [hgr]; exact ho4) ?_
                refine lv_d2l hx hb dX7_bits_72 ?_
                refine lv_ladd hx hb dX7_bits_73 ?_
                refine hend _ _ _ _ _ ?_ hP hD hS dX7_bits_74
                exact bitD_n c3 hgr hgn
              · skip
                obtain ⟨hg1, -, hg2⟩ := db_u hg
                obtain ⟨hg3, hg4, hg5, hg6⟩ := hg2 c41
                refine lv_dload_n hx hb dX7_bits_44 rfl (lv_at hl 1 rfl) ?_
                refine lv_ldc2d (v := 4611686018427387904) hx hb hown (hts (.constantDouble RX7 251 4611686018427387904) (by decide +kernel)) dX7_bits_45 ?_
                refine lv_dmul hx hb dX7_bits_48 hg3 ?_
                refine lv_dstore_n (lv' := [(2, .double (FP.dmul r2 4611686018427387904)), (0, .double v), (4, .long ((1023 + (lN (hvN 14 v))) - (lN k2)))]) hx hb dX7_bits_49 rfl hl (by decide) rfl (fun ls hl => ?_)
                refine lv_lload hx hb dX7_bits_50 (lv_at hl 2 rfl) ?_
                refine lv_lconst (v := 1) hx hb dX7_bits_52 (by decide) ?_
                refine lv_lsub hx hb dX7_bits_53 ?_
                refine lv_lstore (lv' := [(4, .long (((1023 + (lN (hvN 14 v))) - (lN k2)) - 1)), (2, .double (FP.dmul r2 4611686018427387904)), (0, .double v)]) hx hb dX7_bits_54 hl (by decide) rfl (fun ls hl => ?_)
                refine lv_goto (tgt := 38) hx hb dX7_bits_56 (by decide) ?_
                have hl : lv_has ls 6 [(4, .long ((1023 + (lN (hvN 14 v))) - (lN (k2 + 1)))), (2, .double (FP.dmul r2 4611686018427387904)), (0, .double v)] := lv_reg hl 0 (x := .long (((1023 + (lN (hvN 14 v))) - (lN k2)) - 1)) (y := .long ((1023 + (lN (hvN 14 v))) - (lN (k2 + 1)))) rfl (congrArg Value.long (l_dec _ _)) rfl
                exact ih  (f2 - 1) (FP.dmul r2 4611686018427387904) (k2 + 1) trivial hg4 (hg5.symm.trans hr2) (nk_1 hg6 hn2) (by omega) _ _ _ hP hD hS (lv_sub hl [2, 1, 0] rfl)
          have hl : lv_has ls 6 [(0, .double v), (2, .double rr), (4, .long ((1023 + (lN (hvN 14 v))) - (lN 0)))] := lv_reg hl 2 (x := .long (1023 + (lN k))) (y := .long ((1023 + (lN (hvN 14 v))) - (lN 0))) rfl (congrArg Value.long (by rw [hv_ek hf hn c20]; exact l_00 _)) rfl
          exact lp_38 (12 + 1) 12 rr 0 trivial (by rw [← hv_er hf hr c20]; exact ho2) (by unfold bdR; rw [hv_er hf hr c20]) (by rw [hv_er hf hr c20]; rfl) (Nat.lt_succ_self _) _ _ _ hP hD hS (lv_sub hl [0, 1, 2] rfl)
        · skip
          obtain ⟨hf1, -, hf2⟩ := hv_u hf
          obtain ⟨hf3, hf4, hf5, hf6⟩ := hf2 c20
          refine lv_dload_n hx hb dX7_bits_23 rfl (lv_at hl 1 rfl) ?_
          refine lv_ldc2d (v := 4611686018427387904) hx hb hown (hts (.constantDouble RX7 251 4611686018427387904) (by decide +kernel)) dX7_bits_24 ?_
          refine lv_ddiv hx hb dX7_bits_27 hf3 ?_
          refine lv_dstore_n (lv' := [(2, .double (FP.ddiv rr 4611686018427387904)), (0, .double v), (4, .long (1023 + (lN k)))]) hx hb dX7_bits_28 rfl hl (by decide) rfl (fun ls hl => ?_)
          refine lv_lload hx hb dX7_bits_29 (lv_at hl 2 rfl) ?_
          refine lv_lconst (v := 1) hx hb dX7_bits_31 (by decide) ?_
          refine lv_ladd hx hb dX7_bits_32 ?_
          refine lv_lstore (lv' := [(4, .long ((1023 + (lN k)) + 1)), (2, .double (FP.ddiv rr 4611686018427387904)), (0, .double v)]) hx hb dX7_bits_33 hl (by decide) rfl (fun ls hl => ?_)
          refine lv_goto (tgt := 15) hx hb dX7_bits_35 (by decide) ?_
          have hl : lv_has ls 6 [(4, .long (1023 + (lN (k + 1)))), (2, .double (FP.ddiv rr 4611686018427387904)), (0, .double v)] := lv_reg hl 0 (x := .long ((1023 + (lN k)) + 1)) (y := .long (1023 + (lN (k + 1)))) rfl (congrArg Value.long (l_inc _ _)) rfl
          exact ih  (f - 1) (FP.ddiv rr 4611686018427387904) (k + 1) trivial hf4 (hf5.symm.trans hr) (nk_1 hf6 hn) (by omega) _ _ _ hP hD hS (lv_sub hl [2, 1, 0] rfl)
    have hl : lv_has ls 6 [(4, .long (1023 + (lN 0))), (2, .double v), (0, .double v)] := lv_reg hl 0 (x := .long 1023) (y := .long (1023 + (lN 0))) rfl (congrArg Value.long (l_0 _)) rfl
    exact lp_15 (14 + 1) 14 v 0 trivial ho1 rfl rfl (Nat.lt_succ_self _) _ _ _ hP hD hS (lv_sub hl [2, 1, 0] rfl)
  · skip
    refine lv_lconst (v := 0) hx hb dX7_bits_6 (by decide) ?_
    refine hend _ _ _ _ _ ?_ hP hD hS dX7_bits_7
    exact (if_pos c3).symm

set_option maxHeartbeats 4000000 in
set_option maxRecDepth 100000 in
theorem c_X7_floatBits (l : Launch) (D : va_G) (cI cZ cS cJ : ClassId) (v : UInt32) (hv : okF v = true) : C0 l yX7_floatBits wsX7_floatBits ({ frames := 0, cells := 0, slots := 0, locals := 0 }) D (tyL cI cZ cS cJ) [.float v] (List.flatten []) (some (.int (bitF v))) (List.flatten []) 0 0 := by
  refine C0_int (cc := cX7_floatBits) (maxL := 3) (rt := .int) (by decide) rfl (Nat.le_of_ble_eq_true rfl) (rfl) ?_
  intro p e s m below meth c A ls Q X hK hP hD hS hA hl hend
  have X : CallFix p m c cX7_floatBits 3 s ([.float v] : List Value).toArray wsX7_floatBits RX7 := X
  obtain ⟨hx, hb, hml, hown, hts⟩ := id X
  have hl : lv_has ls 3 [(0, .float v)] := hl
  refine lv_fload_n hx hb dX7_floatBits_0 rfl (lv_at hl 0 rfl) ?_
  refine lv_fconst0 hx hb dX7_floatBits_1 ?_
  refine lv_fcmp hx hb dX7_floatBits_2 ?_
  refine lv_if_ne (tgt := 8) hx hb dX7_floatBits_3 (by decide) (fun c3 => ?_) (fun c3 => ?_)
  · skip
    obtain ⟨ho1, ho3, ho4, -⟩ := okF_y hv c3
    have hle := fbN_le 120 v
    refine lv_fload_n hx hb dX7_floatBits_8 rfl (lv_at hl 0 rfl) ?_
    refine lv_fstore_n (lv' := [(1, .float v), (0, .float v)]) hx hb dX7_floatBits_9 rfl hl (by decide) rfl (fun ls hl => ?_)
    refine lv_bipush (v := 127) hx hb dX7_floatBits_10 (by decide) ?_
    refine lv_istore_n (lv' := [(2, .int 127), (1, .float v), (0, .float v)]) hx hb dX7_floatBits_12 rfl hl (by decide) rfl (fun ls hl => ?_)
    have lp_13 : ∀ (nn : Nat) (f2 : Nat) (r2 : UInt32) (k2 : Nat), True → (fbO f2 r2 = true) → (fbR f2 r2 = fbR 120 v) → (fbN f2 r2 + k2 = fbN 120 v) → f2 < nn → ∀ (H : Heap) (locs : List Loc) (ls : Array Slot), va_P D vwCl (List.flatten []) H → va_D A (List.flatten []) → va_S A s.heap H locs → lv_has ls 3 [(0, .float v), (1, .float r2), (2, .int (nI (127 - k2)))] → W p l e ({ frames := 0, cells := 0, slots := 0, locals := 0 } : Room) s m ([.float v] : List Value).toArray below meth c H locs 0 0 Q (F0 m 13 ls []) := by
      intro nn
      induction nn with
      | zero => intro f2 r2 k2 _ hg hr2 hn2 hmz; exact absurd hmz (Nat.not_lt_zero _)
      | succ nn ih =>
        intro f2 r2 k2 _ hg hr2 hn2 hms H locs ls hP hD hS hl
        refine lv_fload_n hx hb dX7_floatBits_13 rfl (lv_at hl 1 rfl) ?_
        refine lv_fconst1 hx hb dX7_floatBits_14 ?_
        refine lv_fcmp hx hb dX7_floatBits_15 ?_
        refine lv_if_ge (tgt := 29) hx hb dX7_floatBits_16 (by decide) (fun c16 => ?_) (fun c16 => ?_)
        · skip
          have hgr := fb_er hg hr2 c16
          have hgn := fb_ek hg hn2 c16
          refine lv_iload_n hx hb dX7_floatBits_29 rfl (lv_at hl 2 rfl) ?_
          refine lv_ldcw (v := 8388608) hx hb hown (hts (.constant RX7 257 8388608) (by decide +kernel)) dX7_floatBits_30 ?_
          refine lv_imul hx hb dX7_floatBits_33 ?_
          refine lv_eqi (y := nI ((127 - k2) * 8388608)) (pk_mul _ _) ?_
          refine lv_fload_n hx hb dX7_floatBits_34 rfl (lv_at hl 1 rfl) ?_
          refine lv_fconst1 hx hb dX7_floatBits_35 ?_
          refine lv_fsub hx hb dX7_floatBits_36 (by rw [hgr]; exact ho3) ?_
          refine lv_ldcfw (v := 1258291200) hx hb hown (hts (.constantFloat RX7 258 1258291200) (by decide +kernel)) dX7_floatBits_37 ?_
          refine lv_fmul hx hb dX7_floatBits_40 (by rw [hgr]; exact ho4) ?_
          refine lv_f2i hx hb dX7_floatBits_41 ?_
          refine lv_iadd hx hb dX7_floatBits_42 ?_
          refine hend _ _ _ _ _ ?_ hP hD hS dX7_floatBits_43
          exact bitF_n c3 hgr hgn
        · skip
          obtain ⟨hg1, -, hg2⟩ := fb_u hg
          obtain ⟨hg3, hg4, hg5, hg6⟩ := hg2 c16
          refine lv_fload_n hx hb dX7_floatBits_19 rfl (lv_at hl 1 rfl) ?_
          refine lv_fconst2 hx hb dX7_floatBits_20 ?_
          refine lv_fmul hx hb dX7_floatBits_21 hg3 ?_
          refine lv_fstore_n (lv' := [(1, .float (FP.fmul r2 FP.fconst2)), (0, .float v), (2, .int (nI (127 - k2)))]) hx hb dX7_floatBits_22 rfl hl (by decide) rfl (fun ls hl => ?_)
          refine lv_iinc (v := nI ((127 - k2) - 1)) (lv' := [(2, .int (nI ((127 - k2) - 1))), (1, .float (FP.fmul r2 FP.fconst2)), (0, .float v)]) hx hb dX7_floatBits_23 hl (k := 2) rfl (n_dec (by omega)) (by decide) rfl (fun ls hl => ?_)
          refine lv_goto (tgt := 13) hx hb dX7_floatBits_26 (by decide) ?_
          have hl : lv_has ls 3 [(2, .int (nI (127 - (k2 + 1)))), (1, .float (FP.fmul r2 FP.fconst2)), (0, .float v)] := lv_re hl 0 (x := nI ((127 - k2) - 1)) (y := nI (127 - (k2 + 1))) rfl (congrArg nI (by omega)) rfl
          exact ih  (f2 - 1) (FP.fmul r2 FP.fconst2) (k2 + 1) trivial hg4 (hg5.symm.trans hr2) (nk_1 hg6 hn2) (by omega) _ _ _ hP hD hS (lv_sub hl [2, 1, 0] rfl)
    exact lp_13 (120 + 1) 120 v 0 trivial ho1 rfl rfl (Nat.lt_succ_self _) _ _ _ hP hD hS (lv_sub hl [2, 1, 0] rfl)
  · skip
    refine lv_iconst (v := 0) hx hb dX7_floatBits_6 (by decide) ?_
    refine hend _ _ _ _ _ ?_ hP hD hS dX7_floatBits_7
    exact (if_pos c3).symm

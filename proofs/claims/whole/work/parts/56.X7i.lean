set_option maxHeartbeats 4000000 in
set_option maxRecDepth 100000 in
theorem c_X7_append (l : Launch) (D : va_G) (cI cZ cS cJ : ClassId) (m0 : Nat) (m1 : Nat) (m2 : Nat) (m3 : Nat) (th : Int32) (sv : Int32) (kp : Int32) (ca : Int32) (lt : Int32) (fi : Int32) (sd : Int32) (hs : Int64) (B : Nat → Nat → Nat → Int32) (T : Nat → Int32) (h : Nat → Int32) (n : Nat) (x : Int32) (hn60 : n ≤ 60) : CE (U := (Int32) × (Nat → Int32) × (Int32) × (Int32)) l yX7_append wsX7_append ({ frames := 1, cells := 0, slots := 0, locals := 22 }) D (tyL cI cZ cS cJ) [.ref m0, .int x] (List.flatten [mdO m0 m1 m2 m3 th sv kp (nI n) ca lt fi sd hs, arC cI m1 1170 (enc B), arC cI m2 60 T, arC cI m3 8 h]) (fun u => (Res (k2 (inR x 33 126) (n < 60)) u.1 (T, nI n) (upd T n x, nI (n + 1)) (u.2.1, u.2.2.1) (nI (n + 1)) u.2.2.2)) (fun u => some (.int u.2.2.2)) (fun u => List.flatten [mdO m0 m1 m2 m3 u.1 sv kp u.2.2.1 ca lt fi sd hs, arC cI m1 1170 (enc B), arC cI m2 60 u.2.1, arC cI m3 8 h]) 0 0 := by
  refine CE_int (cc := cX7_append) (maxL := 2) (rt := .int) (by decide) rfl (Nat.le_of_ble_eq_true rfl) (fun _ _ => rfl) ?_
  intro p e s m below meth c A ls Q X hK hP hD hS hA hl hend
  have X : CallFix p m c cX7_append 2 s ([.ref m0, .int x] : List Value).toArray wsX7_append RX7 := X
  obtain ⟨hx, hb, hml, hown, hts⟩ := id X
  have hl : lv_has ls 2 [(0, .ref m0), (1, .int x)] := hl
  have hinX7 : ∀ w ∈ u_ws RX7 TX7 12, w ∈ wsX7_append := by decide +kernel
  refine lv_aload_n hx hb dX7_append_0 rfl (lv_at hl 0 rfl) ?_
  refine lv_iload_n hx hb dX7_append_1 rfl (lv_at hl 1 rfl) ?_
  refine lv_bipush (v := 33) hx hb dX7_append_2 (by decide) ?_
  refine lv_bipush (v := 126) hx hb dX7_append_4 (by decide) ?_
  refine kcallS (As := [.int x, .int 33, .int 126]) (rest := [.ref m0]) (Wn := [mdO m0 m1 m2 m3 th sv kp (nI n) ca lt fi sd hs, arC cI m1 1170 (enc B), arC cI m2 60 T, arC cI m3 8 h]) X (c_X7_in l D cI cZ cS cJ x 33 126) (va_cwS 3 hts gX7_append_X7_in rfl rfl rfl (by decide +kernel) ⟨Nat.le_of_ble_eq_true rfl, Nat.le_of_ble_eq_true rfl⟩) hK hP hD hS hA [] rfl (by decide +kernel) rfl rfl rfl rfl hl.1 rfl (Nat.le_of_ble_eq_true rfl) dX7_append_6 ⟨Nat.le_of_ble_eq_true rfl, Nat.le_of_ble_eq_true rfl⟩ (fun H locs hP hD hS => ?_)
  refine lv_if_ne (tgt := 16) hx hb dX7_append_9 (by decide) (fun c9 => ?_) (fun c9 => ?_)
  · skip
    refine lv_aload_n hx hb dX7_append_16 rfl (lv_at hl 0 rfl) ?_
    refine va_get (D := D) (ci := 7) (v := .int (nI n)) (C := RX7) (T := TX7) (N := 12) hx hb hts hinX7 hown hK hP 0 rfl rfl 5 (by decide) (hts (.fieldLink RX7 152 "RibbonBalloonsModel" "length" "I") (by decide +kernel)) (fun _ h9 => h9) rfl dX7_append_17 ?_
    refine lv_bipush (v := 60) hx hb dX7_append_20 (by decide) ?_
    refine n_ne (i := n) (j := 60) (tgt := 29) hx hb (by omega) (by omega) dX7_append_22 (by decide) (fun c22 => ?_) (fun c22 => ?_)
    · skip
      refine lv_iconst (v := 0) hx hb dX7_append_29 (by decide) ?_
      refine kcallV (As := [.int 0]) (rest := []) (Wn := [mdO m0 m1 m2 m3 0 sv kp (nI n) ca lt fi sd hs, arC cI m1 1170 (enc B), arC cI m2 60 T, arC cI m3 8 h]) X (c_X7_holds l D cI cZ cS cJ m0 m1 m2 m3 th sv kp (nI n) ca lt fi sd hs B T h 0) (cwV 1 hts gX7_append_X7_holds rfl rfl rfl (by decide +kernel) ⟨Nat.le_of_ble_eq_true rfl, Nat.le_of_ble_eq_true rfl⟩) hK hP hD hS hA [0, 1, 2, 3] rfl (by decide +kernel) rfl rfl rfl 0 7 rfl rfl rfl hl.1 rfl (Nat.le_of_ble_eq_true rfl) dX7_append_30 ⟨Nat.le_of_ble_eq_true rfl, Nat.le_of_ble_eq_true rfl⟩ (fun H locs hP hD hS => ?_)
      refine lv_eqi (y := 1) (by decide) ?_
      refine lv_if_ne (tgt := 38) hx hb dX7_append_33 (by decide) (fun _ => ?_) (fun h => absurd h (by decide))
      refine lv_aload_n hx hb dX7_append_38 rfl (lv_at hl 0 rfl) ?_
      refine va_get (D := D) (ci := 7) (v := .ref m2) (C := RX7) (T := TX7) (N := 12) hx hb hts hinX7 hown hK hP 0 rfl rfl 4 (by decide) (hts (.fieldLink RX7 13 "RibbonBalloonsModel" "text" "[I") (by decide +kernel)) (fun _ h9 => h9) rfl dX7_append_39 ?_
      refine lv_aload_n hx hb dX7_append_42 rfl (lv_at hl 0 rfl) ?_
      refine va_get (D := D) (ci := 7) (v := .int (nI n)) (C := RX7) (T := TX7) (N := 12) hx hb hts hinX7 hown hK hP 0 rfl rfl 5 (by decide) (hts (.fieldLink RX7 152 "RibbonBalloonsModel" "length" "I") (by decide +kernel)) (fun _ h9 => h9) rfl dX7_append_43 ?_
      refine lv_iload_n hx hb dX7_append_46 rfl (lv_at hl 1 rfl) ?_
      refine r_iast hx hb hK hP hD hS 2 0 n (f := T) (x := x) (wn := List.flatten [mdO m0 m1 m2 m3 0 sv kp (nI n) ca lt fi sd hs, arC cI m1 1170 (enc B), arC cI m2 60 (upd T n x), arC cI m3 8 h]) rfl rfl (by omega) (by omega) rfl dX7_append_47 (fun H locs hP hD hS => ?_)
      refine lv_aload_n hx hb dX7_append_48 rfl (lv_at hl 0 rfl) ?_
      refine lv_dup hx hb dX7_append_49 rfl ?_
      refine va_get (D := D) (ci := 7) (v := .int (nI n)) (C := RX7) (T := TX7) (N := 12) hx hb hts hinX7 hown hK hP 0 rfl rfl 5 (by decide) (hts (.fieldLink RX7 152 "RibbonBalloonsModel" "length" "I") (by decide +kernel)) (fun _ h9 => h9) rfl dX7_append_50 ?_
      refine lv_iconst (v := 1) hx hb dX7_append_53 (by decide) ?_
      refine lv_iadd hx hb dX7_append_54 ?_
      refine lv_eqi (y := nI (n + 1)) (nI_add _ _) ?_
      refine va_put (D := D) (ci := 7) (v := .int (nI (n + 1))) (ty := .int) (C := RX7) (T := TX7) (N := 12) hx hb hts hinX7 tyX7 tyX7_ok nmX7 hown hK hP hD hS 0 rfl rfl 5 (by decide) (hts (.fieldLink RX7 152 "RibbonBalloonsModel" "length" "I") (by decide +kernel)) (fun _ h9 => h9) rfl (by decide +kernel) rfl rfl (Nat.le_of_ble_eq_true rfl) dX7_append_55 (fun H locs hP hD hS => ?_)
      have hP : va_P D vwCl (List.flatten [mdO m0 m1 m2 m3 0 sv kp (nI (n + 1)) ca lt fi sd hs, arC cI m1 1170 (enc B), arC cI m2 60 (upd T n x), arC cI m3 8 h]) _ := hP
      have hD : va_D A (List.flatten [mdO m0 m1 m2 m3 0 sv kp (nI (n + 1)) ca lt fi sd hs, arC cI m1 1170 (enc B), arC cI m2 60 (upd T n x), arC cI m3 8 h]) := hD
      refine lv_aload_n hx hb dX7_append_58 rfl (lv_at hl 0 rfl) ?_
      refine va_get (D := D) (ci := 7) (v := .int (nI (n + 1))) (C := RX7) (T := TX7) (N := 12) hx hb hts hinX7 hown hK hP 0 rfl rfl 5 (by decide) (hts (.fieldLink RX7 152 "RibbonBalloonsModel" "length" "I") (by decide +kernel)) (fun _ h9 => h9) rfl dX7_append_59 ?_
      refine hend (0, upd T n x, nI (n + 1), nI (n + 1)) _ _ _ _ _ (by first | exact Res_bad (k2_1 (b1_z c9)) nz1 rfl | exact Res_bad (k2_2 (b1_t c9) (by omega)) nz2 rfl | exact Res_ok (k2_0 (b1_t c9) (by omega)) rfl rfl rfl) ?_ hP hD hS dX7_append_62
      exact rfl
    · skip
      refine lv_iconst (v := 2) hx hb dX7_append_25 (by decide) ?_
      refine lv_goto (tgt := 30) hx hb dX7_append_26 (by decide) ?_
      refine kcallV (As := [.int 2]) (rest := []) (Wn := [mdO m0 m1 m2 m3 2 sv kp (nI n) ca lt fi sd hs, arC cI m1 1170 (enc B), arC cI m2 60 T, arC cI m3 8 h]) X (c_X7_holds l D cI cZ cS cJ m0 m1 m2 m3 th sv kp (nI n) ca lt fi sd hs B T h 2) (cwV 1 hts gX7_append_X7_holds rfl rfl rfl (by decide +kernel) ⟨Nat.le_of_ble_eq_true rfl, Nat.le_of_ble_eq_true rfl⟩) hK hP hD hS hA [0, 1, 2, 3] rfl (by decide +kernel) rfl rfl rfl 0 7 rfl rfl rfl hl.1 rfl (Nat.le_of_ble_eq_true rfl) dX7_append_30 ⟨Nat.le_of_ble_eq_true rfl, Nat.le_of_ble_eq_true rfl⟩ (fun H locs hP hD hS => ?_)
      refine lv_eqi (y := 0) (by decide) ?_
      refine lv_if_ne (tgt := 38) hx hb dX7_append_33 (by decide) (fun h => absurd h (by decide)) (fun _ => ?_)
      refine lv_iconst (v := 0) hx hb dX7_append_36 (by decide) ?_
      refine hend (2, T, nI n, 0) _ _ _ _ _ (by first | exact Res_bad (k2_1 (b1_z c9)) nz1 rfl | exact Res_bad (k2_2 (b1_t c9) (by omega)) nz2 rfl | exact Res_ok (k2_0 (b1_t c9) (by omega)) rfl rfl rfl) ?_ hP hD hS dX7_append_37
      exact rfl
  · skip
    refine lv_iconst (v := 1) hx hb dX7_append_12 (by decide) ?_
    refine lv_goto (tgt := 30) hx hb dX7_append_13 (by decide) ?_
    refine kcallV (As := [.int 1]) (rest := []) (Wn := [mdO m0 m1 m2 m3 1 sv kp (nI n) ca lt fi sd hs, arC cI m1 1170 (enc B), arC cI m2 60 T, arC cI m3 8 h]) X (c_X7_holds l D cI cZ cS cJ m0 m1 m2 m3 th sv kp (nI n) ca lt fi sd hs B T h 1) (cwV 1 hts gX7_append_X7_holds rfl rfl rfl (by decide +kernel) ⟨Nat.le_of_ble_eq_true rfl, Nat.le_of_ble_eq_true rfl⟩) hK hP hD hS hA [0, 1, 2, 3] rfl (by decide +kernel) rfl rfl rfl 0 7 rfl rfl rfl hl.1 rfl (Nat.le_of_ble_eq_true rfl) dX7_append_30 ⟨Nat.le_of_ble_eq_true rfl, Nat.le_of_ble_eq_true rfl⟩ (fun H locs hP hD hS => ?_)
    refine lv_eqi (y := 0) (by decide) ?_
    refine lv_if_ne (tgt := 38) hx hb dX7_append_33 (by decide) (fun h => absurd h (by decide)) (fun _ => ?_)
    refine lv_iconst (v := 0) hx hb dX7_append_36 (by decide) ?_
    refine hend (1, T, nI n, 0) _ _ _ _ _ (by first | exact Res_bad (k2_1 (b1_z c9)) nz1 rfl | exact Res_bad (k2_2 (b1_t c9) (by omega)) nz2 rfl | exact Res_ok (k2_0 (b1_t c9) (by omega)) rfl rfl rfl) ?_ hP hD hS dX7_append_37
    exact rfl

set_option maxHeartbeats 4000000 in
set_option maxRecDepth 100000 in
theorem c_X7_clearBuffer (l : Launch) (D : va_G) (cI cZ cS cJ : ClassId) (m0 : Nat) (m1 : Nat) (m2 : Nat) (m3 : Nat) (th : Int32) (sv : Int32) (kp : Int32) (ln : Int32) (ca : Int32) (lt : Int32) (fi : Int32) (sd : Int32) (hs : Int64) (B : Nat → Nat → Nat → Int32) (T : Nat → Int32) (h : Nat → Int32)  : C0 l yX7_clearBuffer wsX7_clearBuffer ({ frames := 0, cells := 0, slots := 0, locals := 0 }) D (tyL cI cZ cS cJ) [.ref m0] (List.flatten [mdO m0 m1 m2 m3 th sv kp ln ca lt fi sd hs, arC cI m1 1170 (enc B), arC cI m2 60 T, arC cI m3 8 h]) (some (.int ln)) (List.flatten [mdO m0 m1 m2 m3 0 sv kp 0 ca lt fi sd hs, arC cI m1 1170 (enc B), arC cI m2 60 T, arC cI m3 8 h]) 0 0 := by
  refine C0_int (cc := cX7_clearBuffer) (maxL := 2) (rt := .int) (by decide) rfl (Nat.le_of_ble_eq_true rfl) (rfl) ?_
  intro p e s m below meth c A ls Q X hK hP hD hS hA hl hend
  have X : CallFix p m c cX7_clearBuffer 2 s ([.ref m0] : List Value).toArray wsX7_clearBuffer RX7 := X
  obtain ⟨hx, hb, hml, hown, hts⟩ := id X
  have hl : lv_has ls 2 [(0, .ref m0)] := hl
  have hinX7 : ∀ w ∈ u_ws RX7 TX7 12, w ∈ wsX7_clearBuffer := by decide +kernel
  refine lv_aload_n hx hb dX7_clearBuffer_0 rfl (lv_at hl 0 rfl) ?_
  refine lv_iconst (v := 0) hx hb dX7_clearBuffer_1 (by decide) ?_
  refine va_put (D := D) (ci := 7) (v := .int 0) (ty := .int) (C := RX7) (T := TX7) (N := 12) hx hb hts hinX7 tyX7 tyX7_ok nmX7 hown hK hP hD hS 0 rfl rfl 0 (by decide) (hts (.fieldLink RX7 19 "RibbonBalloonsModel" "thrown" "I") (by decide +kernel)) (fun _ h9 => h9) rfl (by decide +kernel) rfl rfl (Nat.le_of_ble_eq_true rfl) dX7_clearBuffer_2 (fun H locs hP hD hS => ?_)
  have hP : va_P D vwCl (List.flatten [mdO m0 m1 m2 m3 0 sv kp ln ca lt fi sd hs, arC cI m1 1170 (enc B), arC cI m2 60 T, arC cI m3 8 h]) _ := hP
  have hD : va_D A (List.flatten [mdO m0 m1 m2 m3 0 sv kp ln ca lt fi sd hs, arC cI m1 1170 (enc B), arC cI m2 60 T, arC cI m3 8 h]) := hD
  refine lv_aload_n hx hb dX7_clearBuffer_5 rfl (lv_at hl 0 rfl) ?_
  refine va_get (D := D) (ci := 7) (v := .int ln) (C := RX7) (T := TX7) (N := 12) hx hb hts hinX7 hown hK hP 0 rfl rfl 5 (by decide) (hts (.fieldLink RX7 152 "RibbonBalloonsModel" "length" "I") (by decide +kernel)) (fun _ h9 => h9) rfl dX7_clearBuffer_6 ?_
  refine lv_istore_n (lv' := [(1, .int ln), (0, .ref m0)]) hx hb dX7_clearBuffer_9 rfl hl (by decide) rfl (fun ls hl => ?_)
  refine lv_aload_n hx hb dX7_clearBuffer_10 rfl (lv_at hl 1 rfl) ?_
  refine lv_iconst (v := 0) hx hb dX7_clearBuffer_11 (by decide) ?_
  refine va_put (D := D) (ci := 7) (v := .int 0) (ty := .int) (C := RX7) (T := TX7) (N := 12) hx hb hts hinX7 tyX7 tyX7_ok nmX7 hown hK hP hD hS 0 rfl rfl 5 (by decide) (hts (.fieldLink RX7 152 "RibbonBalloonsModel" "length" "I") (by decide +kernel)) (fun _ h9 => h9) rfl (by decide +kernel) rfl rfl (Nat.le_of_ble_eq_true rfl) dX7_clearBuffer_12 (fun H locs hP hD hS => ?_)
  have hP : va_P D vwCl (List.flatten [mdO m0 m1 m2 m3 0 sv kp 0 ca lt fi sd hs, arC cI m1 1170 (enc B), arC cI m2 60 T, arC cI m3 8 h]) _ := hP
  have hD : va_D A (List.flatten [mdO m0 m1 m2 m3 0 sv kp 0 ca lt fi sd hs, arC cI m1 1170 (enc B), arC cI m2 60 T, arC cI m3 8 h]) := hD
  refine lv_iload_n hx hb dX7_clearBuffer_15 rfl (lv_at hl 0 rfl) ?_
  refine hend _ _ _ _ _ ?_ hP hD hS dX7_clearBuffer_16
  exact rfl

set_option maxHeartbeats 4000000 in
set_option maxRecDepth 100000 in
theorem c_X7_keep (l : Launch) (D : va_G) (cI cZ cS cJ : ClassId) (m0 : Nat) (m1 : Nat) (m2 : Nat) (m3 : Nat) (th : Int32) (sv : Int32) (kp : Int32) (ln : Int32) (ca : Int32) (lt : Int32) (fi : Int32) (sd : Int32) (hs : Int64) (B : Nat → Nat → Nat → Int32) (T : Nat → Int32) (h : Nat → Int32)  : C0 l yX7_keep wsX7_keep ({ frames := 1, cells := 0, slots := 0, locals := 23 }) D (tyL cI cZ cS cJ) [.ref m0] (List.flatten [mdO m0 m1 m2 m3 th sv kp ln ca lt fi sd hs, arC cI m1 1170 (enc B), arC cI m2 60 T, arC cI m3 8 h]) (some (.int (B 0 12 0))) (List.flatten [mdO m0 m1 m2 m3 0 sv 1 ln ca lt fi sd hs, arC cI m1 1170 (enc (uA B 7 (B 0))), arC cI m2 60 T, arC cI m3 8 h]) 0 0 := by
  refine C0_int (cc := cX7_keep) (maxL := 1) (rt := .int) (by decide) rfl (Nat.le_of_ble_eq_true rfl) (rfl) ?_
  intro p e s m below meth c A ls Q X hK hP hD hS hA hl hend
  have X : CallFix p m c cX7_keep 1 s ([.ref m0] : List Value).toArray wsX7_keep RX7 := X
  obtain ⟨hx, hb, hml, hown, hts⟩ := id X
  have hl : lv_has ls 1 [(0, .ref m0)] := hl
  have hinX7 : ∀ w ∈ u_ws RX7 TX7 12, w ∈ wsX7_keep := by decide +kernel
  refine lv_aload_n hx hb dX7_keep_0 rfl (lv_at hl 0 rfl) ?_
  refine lv_iconst (v := 0) hx hb dX7_keep_1 (by decide) ?_
  refine va_put (D := D) (ci := 7) (v := .int 0) (ty := .int) (C := RX7) (T := TX7) (N := 12) hx hb hts hinX7 tyX7 tyX7_ok nmX7 hown hK hP hD hS 0 rfl rfl 0 (by decide) (hts (.fieldLink RX7 19 "RibbonBalloonsModel" "thrown" "I") (by decide +kernel)) (fun _ h9 => h9) rfl (by decide +kernel) rfl rfl (Nat.le_of_ble_eq_true rfl) dX7_keep_2 (fun H locs hP hD hS => ?_)
  have hP : va_P D vwCl (List.flatten [mdO m0 m1 m2 m3 0 sv kp ln ca lt fi sd hs, arC cI m1 1170 (enc B), arC cI m2 60 T, arC cI m3 8 h]) _ := hP
  have hD : va_D A (List.flatten [mdO m0 m1 m2 m3 0 sv kp ln ca lt fi sd hs, arC cI m1 1170 (enc B), arC cI m2 60 T, arC cI m3 8 h]) := hD
  refine lv_aload_n hx hb dX7_keep_5 rfl (lv_at hl 0 rfl) ?_
  refine lv_iconst (v := 0) hx hb dX7_keep_6 (by decide) ?_
  refine lv_bipush (v := 7) hx hb dX7_keep_7 (by decide) ?_
  refine kcallV (As := [.int 0, .int 7]) (rest := []) (Wn := [mdO m0 m1 m2 m3 0 sv kp ln ca lt fi sd hs, arC cI m1 1170 (enc (uA B 7 (B 0))), arC cI m2 60 T, arC cI m3 8 h]) X (c_X7_copies l D cI cZ cS cJ m0 m1 m2 m3 0 sv kp ln ca lt fi sd hs B T h 0 7 (by omega) (by omega) (by omega)) (cwV 2 hts gX7_keep_X7_copies rfl rfl rfl (by decide +kernel) ⟨Nat.le_of_ble_eq_true rfl, Nat.le_of_ble_eq_true rfl⟩) hK hP hD hS hA [0, 1, 2, 3] rfl (by decide +kernel) rfl rfl rfl 0 7 rfl rfl rfl hl.1 rfl (Nat.le_of_ble_eq_true rfl) dX7_keep_9 ⟨Nat.le_of_ble_eq_true rfl, Nat.le_of_ble_eq_true rfl⟩ (fun H locs hP hD hS => ?_)
  refine lv_aload_n hx hb dX7_keep_12 rfl (lv_at hl 0 rfl) ?_
  refine lv_iconst (v := 1) hx hb dX7_keep_13 (by decide) ?_
  refine va_put (D := D) (ci := 7) (v := .int 1) (ty := .boolean) (C := RX7) (T := TX7) (N := 12) hx hb hts hinX7 tyX7 tyX7_ok nmX7 hown hK hP hD hS 0 rfl rfl 3 (by decide) (hts (.fieldLink RX7 193 "RibbonBalloonsModel" "isKept" "Z") (by decide +kernel)) (fun _ h9 => h9) rfl (by decide +kernel) rfl rfl (Nat.le_of_ble_eq_true rfl) dX7_keep_14 (fun H locs hP hD hS => ?_)
  have hP : va_P D vwCl (List.flatten [mdO m0 m1 m2 m3 0 sv 1 ln ca lt fi sd hs, arC cI m1 1170 (enc (uA B 7 (B 0))), arC cI m2 60 T, arC cI m3 8 h]) _ := hP
  have hD : va_D A (List.flatten [mdO m0 m1 m2 m3 0 sv 1 ln ca lt fi sd hs, arC cI m1 1170 (enc (uA B 7 (B 0))), arC cI m2 60 T, arC cI m3 8 h]) := hD
  refine lv_aload_n hx hb dX7_keep_17 rfl (lv_at hl 0 rfl) ?_
  refine va_get (D := D) (ci := 7) (v := .ref m1) (C := RX7) (T := TX7) (N := 12) hx hb hts hinX7 hown hK hP 0 rfl rfl 1 (by decide) (hts (.fieldLink RX7 7 "RibbonBalloonsModel" "s" "[I") (by decide +kernel)) (fun _ h9 => h9) rfl dX7_keep_18 ?_
  refine lv_iconst (v := 0) hx hb dX7_keep_21 (by decide) ?_
  refine r_iald hx hb hK hP 1 0 0 (f := enc (uA B 7 (B 0))) rfl rfl (by omega) (by omega) dX7_keep_22 ?_
  refine hend _ _ _ _ _ ?_ hP hD hS dX7_keep_23
  rw [enc_at0 _ (by decide), uA_n _ _ (by decide)]

set_option maxHeartbeats 4000000 in
set_option maxRecDepth 100000 in
theorem c_X7_goBack (l : Launch) (D : va_G) (cI cZ cS cJ : ClassId) (m0 : Nat) (m1 : Nat) (m2 : Nat) (m3 : Nat) (th : Int32) (kp : Int32) (ln : Int32) (ca : Int32) (lt : Int32) (fi : Int32) (sd : Int32) (hs : Int64) (B : Nat → Nat → Nat → Int32) (T : Nat → Int32) (h : Nat → Int32) (z : Nat) (hz6 : z ≤ 6) : CE (U := (Int32) × (Nat → Nat → Nat → Int32) × (Int32) × (Int32)) l yX7_goBack wsX7_goBack ({ frames := 2, cells := 0, slots := 0, locals := 44 }) D (tyL cI cZ cS cJ) [.ref m0] (List.flatten [mdO m0 m1 m2 m3 th (nI z) kp ln ca lt fi sd hs, arC cI m1 1170 (enc B), arC cI m2 60 T, arC cI m3 8 h]) (fun u => (Res (k1 (¬ kp = 0)) u.1 (B, nI z) (uA (savB B z) 0 (B 7), nI (savZ z)) (u.2.1, u.2.2.1) (B 7 12 0) u.2.2.2)) (fun u => some (.int u.2.2.2)) (fun u => List.flatten [mdO m0 m1 m2 m3 u.1 u.2.2.1 kp ln ca lt fi sd hs, arC cI m1 1170 (enc u.2.1), arC cI m2 60 T, arC cI m3 8 h]) 0 0 := by
  refine CE_int (cc := cX7_goBack) (maxL := 1) (rt := .int) (by decide) rfl (Nat.le_of_ble_eq_true rfl) (fun _ _ => rfl) ?_
  intro p e s m below meth c A ls Q X hK hP hD hS hA hl hend
  have X : CallFix p m c cX7_goBack 1 s ([.ref m0] : List Value).toArray wsX7_goBack RX7 := X
  obtain ⟨hx, hb, hml, hown, hts⟩ := id X
  have hl : lv_has ls 1 [(0, .ref m0)] := hl
  have hinX7 : ∀ w ∈ u_ws RX7 TX7 12, w ∈ wsX7_goBack := by decide +kernel
  refine lv_aload_n hx hb dX7_goBack_0 rfl (lv_at hl 0 rfl) ?_
  refine lv_aload_n hx hb dX7_goBack_1 rfl (lv_at hl 0 rfl) ?_
  refine va_get (D := D) (ci := 7) (v := .int kp) (C := RX7) (T := TX7) (N := 12) hx hb hts hinX7 hown hK hP 0 rfl rfl 3 (by decide) (hts (.fieldLink RX7 193 "RibbonBalloonsModel" "isKept" "Z") (by decide +kernel)) (fun _ h9 => h9) rfl dX7_goBack_2 ?_
  refine lv_if_eq (tgt := 12) hx hb dX7_goBack_5 (by decide) (fun c5 => ?_) (fun c5 => ?_)
  · skip
    refine lv_iconst (v := 1) hx hb dX7_goBack_12 (by decide) ?_
    refine kcallV (As := [.int 1]) (rest := []) (Wn := [mdO m0 m1 m2 m3 1 (nI z) kp ln ca lt fi sd hs, arC cI m1 1170 (enc B), arC cI m2 60 T, arC cI m3 8 h]) X (c_X7_holds l D cI cZ cS cJ m0 m1 m2 m3 th (nI z) kp ln ca lt fi sd hs B T h 1) (cwV 1 hts gX7_goBack_X7_holds rfl rfl rfl (by decide +kernel) ⟨Nat.le_of_ble_eq_true rfl, Nat.le_of_ble_eq_true rfl⟩) hK hP hD hS hA [0, 1, 2, 3] rfl (by decide +kernel) rfl rfl rfl 0 7 rfl rfl rfl hl.1 rfl (Nat.le_of_ble_eq_true rfl) dX7_goBack_13 ⟨Nat.le_of_ble_eq_true rfl, Nat.le_of_ble_eq_true rfl⟩ (fun H locs hP hD hS => ?_)
    refine lv_eqi (y := 0) (by decide) ?_
    refine lv_if_ne (tgt := 21) hx hb dX7_goBack_16 (by decide) (fun h => absurd h (by decide)) (fun _ => ?_)
    refine lv_iconst (v := 0) hx hb dX7_goBack_19 (by decide) ?_
    refine hend (1, B, nI z, 0) _ _ _ _ _ (by first | exact Res_bad (k1_1 (not_not_intro c5)) nz1 rfl | exact Res_ok (k1_0 c5) rfl rfl (by rw [enc_at0 _ (by decide), uA_s])) ?_ hP hD hS dX7_goBack_20
    exact rfl
  · skip
    refine lv_iconst (v := 0) hx hb dX7_goBack_8 (by decide) ?_
    refine lv_goto (tgt := 13) hx hb dX7_goBack_9 (by decide) ?_
    refine kcallV (As := [.int 0]) (rest := []) (Wn := [mdO m0 m1 m2 m3 0 (nI z) kp ln ca lt fi sd hs, arC cI m1 1170 (enc B), arC cI m2 60 T, arC cI m3 8 h]) X (c_X7_holds l D cI cZ cS cJ m0 m1 m2 m3 th (nI z) kp ln ca lt fi sd hs B T h 0) (cwV 1 hts gX7_goBack_X7_holds rfl rfl rfl (by decide +kernel) ⟨Nat.le_of_ble_eq_true rfl, Nat.le_of_ble_eq_true rfl⟩) hK hP hD hS hA [0, 1, 2, 3] rfl (by decide +kernel) rfl rfl rfl 0 7 rfl rfl rfl hl.1 rfl (Nat.le_of_ble_eq_true rfl) dX7_goBack_13 ⟨Nat.le_of_ble_eq_true rfl, Nat.le_of_ble_eq_true rfl⟩ (fun H locs hP hD hS => ?_)
    refine lv_eqi (y := 1) (by decide) ?_
    refine lv_if_ne (tgt := 21) hx hb dX7_goBack_16 (by decide) (fun _ => ?_) (fun h => absurd h (by decide))
    refine lv_aload_n hx hb dX7_goBack_21 rfl (lv_at hl 0 rfl) ?_
    refine kcallV (As := []) (rest := []) (Wn := [mdO m0 m1 m2 m3 0 (nI (savZ z)) kp ln ca lt fi sd hs, arC cI m1 1170 (enc (savB B z)), arC cI m2 60 T, arC cI m3 8 h]) X (c_X7_save l D cI cZ cS cJ m0 m1 m2 m3 0 kp ln ca lt fi sd hs B T h z (by omega)) (cwV 0 hts gX7_goBack_X7_save rfl rfl rfl (by decide +kernel) ⟨Nat.le_of_ble_eq_true rfl, Nat.le_of_ble_eq_true rfl⟩) hK hP hD hS hA [0, 1, 2, 3] rfl (by decide +kernel) rfl rfl rfl 0 7 rfl rfl rfl hl.1 rfl (Nat.le_of_ble_eq_true rfl) dX7_goBack_22 ⟨Nat.le_of_ble_eq_true rfl, Nat.le_of_ble_eq_true rfl⟩ (fun H locs hP hD hS => ?_)
    refine lv_aload_n hx hb dX7_goBack_25 rfl (lv_at hl 0 rfl) ?_
    refine lv_bipush (v := 7) hx hb dX7_goBack_26 (by decide) ?_
    refine lv_iconst (v := 0) hx hb dX7_goBack_28 (by decide) ?_
    refine kcallV (As := [.int 7, .int 0]) (rest := []) (Wn := [mdO m0 m1 m2 m3 0 (nI (savZ z)) kp ln ca lt fi sd hs, arC cI m1 1170 (enc (uA (savB B z) 0 ((savB B z) 7))), arC cI m2 60 T, arC cI m3 8 h]) X (c_X7_copies l D cI cZ cS cJ m0 m1 m2 m3 0 (nI (savZ z)) kp ln ca lt fi sd hs (savB B z) T h 7 0 (by omega) (by omega) (by omega)) (cwV 2 hts gX7_goBack_X7_copies rfl rfl rfl (by decide +kernel) ⟨Nat.le_of_ble_eq_true rfl, Nat.le_of_ble_eq_true rfl⟩) hK hP hD hS hA [0, 1, 2, 3] rfl (by decide +kernel) rfl rfl rfl 0 7 rfl rfl rfl hl.1 rfl (Nat.le_of_ble_eq_true rfl) dX7_goBack_29 ⟨Nat.le_of_ble_eq_true rfl, Nat.le_of_ble_eq_true rfl⟩ (fun H locs hP hD hS => ?_)
    obtain ⟨hP, hD⟩ := PD_cg hP hD 1 (enc (uA (savB B z) 0 (B 7))) rfl (fun j _ => by rw [sav_7]) (wn := List.flatten [mdO m0 m1 m2 m3 0 (nI (savZ z)) kp ln ca lt fi sd hs, arC cI m1 1170 (enc (uA (savB B z) 0 (B 7))), arC cI m2 60 T, arC cI m3 8 h]) rfl
    refine lv_aload_n hx hb dX7_goBack_32 rfl (lv_at hl 0 rfl) ?_
    refine va_get (D := D) (ci := 7) (v := .ref m1) (C := RX7) (T := TX7) (N := 12) hx hb hts hinX7 hown hK hP 0 rfl rfl 1 (by decide) (hts (.fieldLink RX7 7 "RibbonBalloonsModel" "s" "[I") (by decide +kernel)) (fun _ h9 => h9) rfl dX7_goBack_33 ?_
    refine lv_iconst (v := 0) hx hb dX7_goBack_36 (by decide) ?_
    refine r_iald hx hb hK hP 1 0 0 (f := enc (uA (savB B z) 0 (B 7))) rfl rfl (by omega) (by omega) dX7_goBack_37 ?_
    refine hend (0, (uA (savB B z) 0 (B 7)), nI (savZ z), (enc (uA (savB B z) 0 (B 7))) 0) _ _ _ _ _ (by first | exact Res_bad (k1_1 (not_not_intro c5)) nz1 rfl | exact Res_ok (k1_0 c5) rfl rfl (by rw [enc_at0 _ (by decide), uA_s])) ?_ hP hD hS dX7_goBack_38
    exact rfl

set_option maxHeartbeats 4000000 in
set_option maxRecDepth 100000 in
theorem c_X7_undo (l : Launch) (D : va_G) (cI cZ cS cJ : ClassId) (m0 : Nat) (m1 : Nat) (m2 : Nat) (m3 : Nat) (th : Int32) (kp : Int32) (ln : Int32) (ca : Int32) (lt : Int32) (fi : Int32) (sd : Int32) (hs : Int64) (B : Nat → Nat → Nat → Int32) (T : Nat → Int32) (h : Nat → Int32) (z : Nat) (hz6 : z ≤ 6) : CE (U := (Int32) × (Nat → Nat → Nat → Int32) × (Int32) × (Int32)) l yX7_undo wsX7_undo ({ frames := 1, cells := 0, slots := 0, locals := 23 }) D (tyL cI cZ cS cJ) [.ref m0] (List.flatten [mdO m0 m1 m2 m3 th (nI z) kp ln ca lt fi sd hs, arC cI m1 1170 (enc B), arC cI m2 60 T, arC cI m3 8 h]) (fun u => (Res (k1 (0 < z)) u.1 (B, nI z) (uA B 0 (B z), nI (z - 1)) (u.2.1, u.2.2.1) (nI (z - 1)) u.2.2.2)) (fun u => some (.int u.2.2.2)) (fun u => List.flatten [mdO m0 m1 m2 m3 u.1 u.2.2.1 kp ln ca lt fi sd hs, arC cI m1 1170 (enc u.2.1), arC cI m2 60 T, arC cI m3 8 h]) 0 0 := by
  refine CE_int (cc := cX7_undo) (maxL := 1) (rt := .int) (by decide) rfl (Nat.le_of_ble_eq_true rfl) (fun _ _ => rfl) ?_
  intro p e s m below meth c A ls Q X hK hP hD hS hA hl hend
  have X : CallFix p m c cX7_undo 1 s ([.ref m0] : List Value).toArray wsX7_undo RX7 := X
  obtain ⟨hx, hb, hml, hown, hts⟩ := id X
  have hl : lv_has ls 1 [(0, .ref m0)] := hl
  have hinX7 : ∀ w ∈ u_ws RX7 TX7 12, w ∈ wsX7_undo := by decide +kernel
  refine lv_aload_n hx hb dX7_undo_0 rfl (lv_at hl 0 rfl) ?_
  refine lv_aload_n hx hb dX7_undo_1 rfl (lv_at hl 0 rfl) ?_
  refine va_get (D := D) (ci := 7) (v := .int (nI z)) (C := RX7) (T := TX7) (N := 12) hx hb hts hinX7 hown hK hP 0 rfl rfl 2 (by decide) (hts (.fieldLink RX7 78 "RibbonBalloonsModel" "saved" "I") (by decide +kernel)) (fun _ h9 => h9) rfl dX7_undo_2 ?_
  refine n_ifle (i := z) (tgt := 12) hx hb (by omega) dX7_undo_5 (by decide) (fun c5 => ?_) (fun c5 => ?_)
  · skip
    refine lv_iconst (v := 1) hx hb dX7_undo_12 (by decide) ?_
    refine kcallV (As := [.int 1]) (rest := []) (Wn := [mdO m0 m1 m2 m3 1 (nI z) kp ln ca lt fi sd hs, arC cI m1 1170 (enc B), arC cI m2 60 T, arC cI m3 8 h]) X (c_X7_holds l D cI cZ cS cJ m0 m1 m2 m3 th (nI z) kp ln ca lt fi sd hs B T h 1) (cwV 1 hts gX7_undo_X7_holds rfl rfl rfl (by decide +kernel) ⟨Nat.le_of_ble_eq_true rfl, Nat.le_of_ble_eq_true rfl⟩) hK hP hD hS hA [0, 1, 2, 3] rfl (by decide +kernel) rfl rfl rfl 0 7 rfl rfl rfl hl.1 rfl (Nat.le_of_ble_eq_true rfl) dX7_undo_13 ⟨Nat.le_of_ble_eq_true rfl, Nat.le_of_ble_eq_true rfl⟩ (fun H locs hP hD hS => ?_)
    refine lv_eqi (y := 0) (by decide) ?_
    refine lv_if_ne (tgt := 21) hx hb dX7_undo_16 (by decide) (fun h => absurd h (by decide)) (fun _ => ?_)
    refine lv_iconst (v := 0) hx hb dX7_undo_19 (by decide) ?_
    refine hend (1, B, nI z, 0) _ _ _ _ _ (by first | exact Res_bad (k1_1 (by omega)) nz1 rfl | exact Res_ok (k1_0 (by omega)) rfl rfl rfl) ?_ hP hD hS dX7_undo_20
    exact rfl
  · skip
    refine lv_iconst (v := 0) hx hb dX7_undo_8 (by decide) ?_
    refine lv_goto (tgt := 13) hx hb dX7_undo_9 (by decide) ?_
    refine kcallV (As := [.int 0]) (rest := []) (Wn := [mdO m0 m1 m2 m3 0 (nI z) kp ln ca lt fi sd hs, arC cI m1 1170 (enc B), arC cI m2 60 T, arC cI m3 8 h]) X (c_X7_holds l D cI cZ cS cJ m0 m1 m2 m3 th (nI z) kp ln ca lt fi sd hs B T h 0) (cwV 1 hts gX7_undo_X7_holds rfl rfl rfl (by decide +kernel) ⟨Nat.le_of_ble_eq_true rfl, Nat.le_of_ble_eq_true rfl⟩) hK hP hD hS hA [0, 1, 2, 3] rfl (by decide +kernel) rfl rfl rfl 0 7 rfl rfl rfl hl.1 rfl (Nat.le_of_ble_eq_true rfl) dX7_undo_13 ⟨Nat.le_of_ble_eq_true rfl, Nat.le_of_ble_eq_true rfl⟩ (fun H locs hP hD hS => ?_)
    refine lv_eqi (y := 1) (by decide) ?_
    refine lv_if_ne (tgt := 21) hx hb dX7_undo_16 (by decide) (fun _ => ?_) (fun h => absurd h (by decide))
    refine lv_aload_n hx hb dX7_undo_21 rfl (lv_at hl 0 rfl) ?_
    refine lv_aload_n hx hb dX7_undo_22 rfl (lv_at hl 0 rfl) ?_
    refine va_get (D := D) (ci := 7) (v := .int (nI z)) (C := RX7) (T := TX7) (N := 12) hx hb hts hinX7 hown hK hP 0 rfl rfl 2 (by decide) (hts (.fieldLink RX7 78 "RibbonBalloonsModel" "saved" "I") (by decide +kernel)) (fun _ h9 => h9) rfl dX7_undo_23 ?_
    refine lv_iconst (v := 0) hx hb dX7_undo_26 (by decide) ?_
    refine kcallV (As := [.int (nI z), .int 0]) (rest := []) (Wn := [mdO m0 m1 m2 m3 0 (nI z) kp ln ca lt fi sd hs, arC cI m1 1170 (enc (uA B 0 (B z))), arC cI m2 60 T, arC cI m3 8 h]) X (c_X7_copies l D cI cZ cS cJ m0 m1 m2 m3 0 (nI z) kp ln ca lt fi sd hs B T h z 0 (by omega) (by omega) (by omega)) (cwV 2 hts gX7_undo_X7_copies rfl rfl rfl (by decide +kernel) ⟨Nat.le_of_ble_eq_true rfl, Nat.le_of_ble_eq_true rfl⟩) hK hP hD hS hA [0, 1, 2, 3] rfl (by decide +kernel) rfl rfl rfl 0 7 rfl rfl rfl hl.1 rfl (Nat.le_of_ble_eq_true rfl) dX7_undo_27 ⟨Nat.le_of_ble_eq_true rfl, Nat.le_of_ble_eq_true rfl⟩ (fun H locs hP hD hS => ?_)
    refine lv_aload_n hx hb dX7_undo_30 rfl (lv_at hl 0 rfl) ?_
    refine lv_dup hx hb dX7_undo_31 rfl ?_
    refine va_get (D := D) (ci := 7) (v := .int (nI z)) (C := RX7) (T := TX7) (N := 12) hx hb hts hinX7 hown hK hP 0 rfl rfl 2 (by decide) (hts (.fieldLink RX7 78 "RibbonBalloonsModel" "saved" "I") (by decide +kernel)) (fun _ h9 => h9) rfl dX7_undo_32 ?_
    refine lv_iconst (v := 1) hx hb dX7_undo_35 (by decide) ?_
    refine lv_isub hx hb dX7_undo_36 ?_
    refine lv_eqi (y := nI (z - 1)) (pk_sub (a := z) (b := 1) (by omega)) ?_
    refine va_put (D := D) (ci := 7) (v := .int (nI (z - 1))) (ty := .int) (C := RX7) (T := TX7) (N := 12) hx hb hts hinX7 tyX7 tyX7_ok nmX7 hown hK hP hD hS 0 rfl rfl 2 (by decide) (hts (.fieldLink RX7 78 "RibbonBalloonsModel" "saved" "I") (by decide +kernel)) (fun _ h9 => h9) rfl (by decide +kernel) rfl rfl (Nat.le_of_ble_eq_true rfl) dX7_undo_37 (fun H locs hP hD hS => ?_)
    have hP : va_P D vwCl (List.flatten [mdO m0 m1 m2 m3 0 (nI (z - 1)) kp ln ca lt fi sd hs, arC cI m1 1170 (enc (uA B 0 (B z))), arC cI m2 60 T, arC cI m3 8 h]) _ := hP
    have hD : va_D A (List.flatten [mdO m0 m1 m2 m3 0 (nI (z - 1)) kp ln ca lt fi sd hs, arC cI m1 1170 (enc (uA B 0 (B z))), arC cI m2 60 T, arC cI m3 8 h]) := hD
    refine lv_aload_n hx hb dX7_undo_40 rfl (lv_at hl 0 rfl) ?_
    refine va_get (D := D) (ci := 7) (v := .int (nI (z - 1))) (C := RX7) (T := TX7) (N := 12) hx hb hts hinX7 hown hK hP 0 rfl rfl 2 (by decide) (hts (.fieldLink RX7 78 "RibbonBalloonsModel" "saved" "I") (by decide +kernel)) (fun _ h9 => h9) rfl dX7_undo_41 ?_
    refine hend (0, (uA B 0 (B z)), nI (z - 1), nI (z - 1)) _ _ _ _ _ (by first | exact Res_bad (k1_1 (by omega)) nz1 rfl | exact Res_ok (k1_0 (by omega)) rfl rfl rfl) ?_ hP hD hS dX7_undo_44
    exact rfl

set_option maxHeartbeats 4000000 in
set_option maxRecDepth 100000 in
theorem c_X7_ofBalloon0 (l : Launch) (D : va_G) (cI cZ cS cJ : ClassId) (m0 : Nat) (m1 : Nat) (m2 : Nat) (m3 : Nat) (th : Int32) (sv : Int32) (kp : Int32) (ln : Int32) (ca : Int32) (lt : Int32) (fi : Int32) (sd : Int32) (hs : Int64) (B : Nat → Nat → Nat → Int32) (T : Nat → Int32) (h : Nat → Int32) (b : Nat) (hb8 : b < 8) (hG : GB (B 0)) (h6 : B 0 6 = ht (B 0)) : CE (U := (Nat → Int32)) l yX7_ofBalloon wsX7_ofBalloon ({ frames := 6, cells := 0, slots := 0, locals := 132 }) D (tyL cI cZ cS cJ) [.ref m0, .int (nI b), .int 0] (List.flatten [mdO m0 m1 m2 m3 th sv kp ln ca lt fi sd hs, arC cI m1 1170 (enc B), arC cI m2 60 T, arC cI m3 8 h]) (fun u => True) (fun u => some (.int (balS (B 0) b 0))) (fun u => List.flatten [mdO m0 m1 m2 m3 th sv kp ln ca lt fi sd hs, arC cI m1 1170 (enc B), arC cI m2 60 T, arC cI m3 8 u]) 0 0 := by
  refine CE_int (cc := cX7_ofBalloon) (maxL := 3) (rt := .int) (by decide) rfl (Nat.le_of_ble_eq_true rfl) (fun _ _ => rfl) ?_
  intro p e s m below meth c A ls Q X hK hP hD hS hA hl hend
  have X : CallFix p m c cX7_ofBalloon 3 s ([.ref m0, .int (nI b), .int 0] : List Value).toArray wsX7_ofBalloon RX7 := X
  obtain ⟨hx, hb, hml, hown, hts⟩ := id X
  have hl : lv_has ls 3 [(0, .ref m0), (1, .int (nI b)), (2, .int 0)] := hl
  refine lv_iload_n hx hb dX7_ofBalloon_0 rfl (lv_at hl 2 rfl) ?_
  refine lv_tableOut (tgt := 113) hx hb dX7_ofBalloon_1 (by decide) (by decide) ?_
  refine lv_aload_n hx hb dX7_ofBalloon_113 rfl (lv_at hl 0 rfl) ?_
  refine lv_iconst (v := 0) hx hb dX7_ofBalloon_114 (by decide) ?_
  refine lv_eqi (y := nI (130 * 0)) (rfl) ?_
  refine lv_iload_n hx hb dX7_ofBalloon_115 rfl (lv_at hl 1 rfl) ?_
  refine lv_iload_n hx hb dX7_ofBalloon_116 rfl (lv_at hl 2 rfl) ?_
  refine kcallV (As := [.int (nI (130 * 0)), .int (nI b), .int 0]) (rest := []) (Wn := [mdO m0 m1 m2 m3 th sv kp ln ca lt fi sd hs, arC cI m1 1170 (enc B), arC cI m2 60 T, arC cI m3 8 h]) X (c_X7_of0 l D cI cZ cS cJ m0 m1 m2 m3 th sv kp ln ca lt fi sd hs B T h 0 b (by omega) (by omega)) (cwV 3 hts gX7_ofBalloon_X7_of rfl rfl rfl (by decide +kernel) ⟨Nat.le_of_ble_eq_true rfl, Nat.le_of_ble_eq_true rfl⟩) hK hP hD hS hA [0, 1, 2, 3] rfl (by decide +kernel) rfl rfl rfl 0 7 rfl rfl rfl hl.1 rfl (Nat.le_of_ble_eq_true rfl) dX7_ofBalloon_117 ⟨Nat.le_of_ble_eq_true rfl, Nat.le_of_ble_eq_true rfl⟩ (fun H locs hP hD hS => ?_)
  refine hend (h) _ _ _ _ _ trivial ?_ hP hD hS dX7_ofBalloon_120
  exact rfl

set_option maxHeartbeats 4000000 in
set_option maxRecDepth 100000 in
theorem c_X7_ofBalloon1 (l : Launch) (D : va_G) (cI cZ cS cJ : ClassId) (m0 : Nat) (m1 : Nat) (m2 : Nat) (m3 : Nat) (th : Int32) (sv : Int32) (kp : Int32) (ln : Int32) (ca : Int32) (lt : Int32) (fi : Int32) (sd : Int32) (hs : Int64) (B : Nat → Nat → Nat → Int32) (T : Nat → Int32) (h : Nat → Int32) (b : Nat) (hb8 : b < 8) (hG : GB (B 0)) (h6 : B 0 6 = ht (B 0)) : CE (U := (Nat → Int32)) l yX7_ofBalloon wsX7_ofBalloon ({ frames := 6, cells := 0, slots := 0, locals := 132 }) D (tyL cI cZ cS cJ) [.ref m0, .int (nI b), .int 1] (List.flatten [mdO m0 m1 m2 m3 th sv kp ln ca lt fi sd hs, arC cI m1 1170 (enc B), arC cI m2 60 T, arC cI m3 8 h]) (fun u => True) (fun u => some (.int (balS (B 0) b 1))) (fun u => List.flatten [mdO m0 m1 m2 m3 th sv kp ln ca lt fi sd hs, arC cI m1 1170 (enc B), arC cI m2 60 T, arC cI m3 8 u]) 0 0 := by
  refine CE_int (cc := cX7_ofBalloon) (maxL := 3) (rt := .int) (by decide) rfl (Nat.le_of_ble_eq_true rfl) (fun _ _ => rfl) ?_
  intro p e s m below meth c A ls Q X hK hP hD hS hA hl hend
  have X : CallFix p m c cX7_ofBalloon 3 s ([.ref m0, .int (nI b), .int 1] : List Value).toArray wsX7_ofBalloon RX7 := X
  obtain ⟨hx, hb, hml, hown, hts⟩ := id X
  have hl : lv_has ls 3 [(0, .ref m0), (1, .int (nI b)), (2, .int 1)] := hl
  refine lv_iload_n hx hb dX7_ofBalloon_0 rfl (lv_at hl 2 rfl) ?_
  refine lv_tableOut (tgt := 113) hx hb dX7_ofBalloon_1 (by decide) (by decide) ?_
  refine lv_aload_n hx hb dX7_ofBalloon_113 rfl (lv_at hl 0 rfl) ?_
  refine lv_iconst (v := 0) hx hb dX7_ofBalloon_114 (by decide) ?_
  refine lv_eqi (y := nI (130 * 0)) (rfl) ?_
  refine lv_iload_n hx hb dX7_ofBalloon_115 rfl (lv_at hl 1 rfl) ?_
  refine lv_iload_n hx hb dX7_ofBalloon_116 rfl (lv_at hl 2 rfl) ?_
  refine kcallV (As := [.int (nI (130 * 0)), .int (nI b), .int 1]) (rest := []) (Wn := [mdO m0 m1 m2 m3 th sv kp ln ca lt fi sd hs, arC cI m1 1170 (enc B), arC cI m2 60 T, arC cI m3 8 h]) X (c_X7_of1 l D cI cZ cS cJ m0 m1 m2 m3 th sv kp ln ca lt fi sd hs B T h 0 b (by omega) (by omega)) (cwV 3 hts gX7_ofBalloon_X7_of rfl rfl rfl (by decide +kernel) ⟨Nat.le_of_ble_eq_true rfl, Nat.le_of_ble_eq_true rfl⟩) hK hP hD hS hA [0, 1, 2, 3] rfl (by decide +kernel) rfl rfl rfl 0 7 rfl rfl rfl hl.1 rfl (Nat.le_of_ble_eq_true rfl) dX7_ofBalloon_117 ⟨Nat.le_of_ble_eq_true rfl, Nat.le_of_ble_eq_true rfl⟩ (fun H locs hP hD hS => ?_)
  refine hend (h) _ _ _ _ _ trivial ?_ hP hD hS dX7_ofBalloon_120
  exact rfl

set_option maxHeartbeats 4000000 in
set_option maxRecDepth 100000 in
theorem c_X7_ofBalloon2 (l : Launch) (D : va_G) (cI cZ cS cJ : ClassId) (m0 : Nat) (m1 : Nat) (m2 : Nat) (m3 : Nat) (th : Int32) (sv : Int32) (kp : Int32) (ln : Int32) (ca : Int32) (lt : Int32) (fi : Int32) (sd : Int32) (hs : Int64) (B : Nat → Nat → Nat → Int32) (T : Nat → Int32) (h : Nat → Int32) (b : Nat) (hb8 : b < 8) (hG : GB (B 0)) (h6 : B 0 6 = ht (B 0)) : CE (U := (Nat → Int32)) l yX7_ofBalloon wsX7_ofBalloon ({ frames := 6, cells := 0, slots := 0, locals := 132 }) D (tyL cI cZ cS cJ) [.ref m0, .int (nI b), .int 2] (List.flatten [mdO m0 m1 m2 m3 th sv kp ln ca lt fi sd hs, arC cI m1 1170 (enc B), arC cI m2 60 T, arC cI m3 8 h]) (fun u => True) (fun u => some (.int (balS (B 0) b 2))) (fun u => List.flatten [mdO m0 m1 m2 m3 th sv kp ln ca lt fi sd hs, arC cI m1 1170 (enc B), arC cI m2 60 T, arC cI m3 8 u]) 0 0 := by
  refine CE_int (cc := cX7_ofBalloon) (maxL := 3) (rt := .int) (by decide) rfl (Nat.le_of_ble_eq_true rfl) (fun _ _ => rfl) ?_
  intro p e s m below meth c A ls Q X hK hP hD hS hA hl hend
  have X : CallFix p m c cX7_ofBalloon 3 s ([.ref m0, .int (nI b), .int 2] : List Value).toArray wsX7_ofBalloon RX7 := X
  obtain ⟨hx, hb, hml, hown, hts⟩ := id X
  have hl : lv_has ls 3 [(0, .ref m0), (1, .int (nI b)), (2, .int 2)] := hl
  refine lv_iload_n hx hb dX7_ofBalloon_0 rfl (lv_at hl 2 rfl) ?_
  refine lv_tableOut (tgt := 113) hx hb dX7_ofBalloon_1 (by decide) (by decide) ?_
  refine lv_aload_n hx hb dX7_ofBalloon_113 rfl (lv_at hl 0 rfl) ?_
  refine lv_iconst (v := 0) hx hb dX7_ofBalloon_114 (by decide) ?_
  refine lv_eqi (y := nI (130 * 0)) (rfl) ?_
  refine lv_iload_n hx hb dX7_ofBalloon_115 rfl (lv_at hl 1 rfl) ?_
  refine lv_iload_n hx hb dX7_ofBalloon_116 rfl (lv_at hl 2 rfl) ?_
  refine kcallV (As := [.int (nI (130 * 0)), .int (nI b), .int 2]) (rest := []) (Wn := [mdO m0 m1 m2 m3 th sv kp ln ca lt fi sd hs, arC cI m1 1170 (enc B), arC cI m2 60 T, arC cI m3 8 h]) X (c_X7_of2 l D cI cZ cS cJ m0 m1 m2 m3 th sv kp ln ca lt fi sd hs B T h 0 b (by omega) (by omega)) (cwV 3 hts gX7_ofBalloon_X7_of rfl rfl rfl (by decide +kernel) ⟨Nat.le_of_ble_eq_true rfl, Nat.le_of_ble_eq_true rfl⟩) hK hP hD hS hA [0, 1, 2, 3] rfl (by decide +kernel) rfl rfl rfl 0 7 rfl rfl rfl hl.1 rfl (Nat.le_of_ble_eq_true rfl) dX7_ofBalloon_117 ⟨Nat.le_of_ble_eq_true rfl, Nat.le_of_ble_eq_true rfl⟩ (fun H locs hP hD hS => ?_)
  refine hend (h) _ _ _ _ _ trivial ?_ hP hD hS dX7_ofBalloon_120
  exact rfl

set_option maxHeartbeats 4000000 in
set_option maxRecDepth 100000 in
theorem c_X7_ofBalloon3 (l : Launch) (D : va_G) (cI cZ cS cJ : ClassId) (m0 : Nat) (m1 : Nat) (m2 : Nat) (m3 : Nat) (th : Int32) (sv : Int32) (kp : Int32) (ln : Int32) (ca : Int32) (lt : Int32) (fi : Int32) (sd : Int32) (hs : Int64) (B : Nat → Nat → Nat → Int32) (T : Nat → Int32) (h : Nat → Int32) (b : Nat) (hb8 : b < 8) (hG : GB (B 0)) (h6 : B 0 6 = ht (B 0)) : CE (U := (Nat → Int32)) l yX7_ofBalloon wsX7_ofBalloon ({ frames := 6, cells := 0, slots := 0, locals := 132 }) D (tyL cI cZ cS cJ) [.ref m0, .int (nI b), .int 3] (List.flatten [mdO m0 m1 m2 m3 th sv kp ln ca lt fi sd hs, arC cI m1 1170 (enc B), arC cI m2 60 T, arC cI m3 8 h]) (fun u => True) (fun u => some (.int (balS (B 0) b 3))) (fun u => List.flatten [mdO m0 m1 m2 m3 th sv kp ln ca lt fi sd hs, arC cI m1 1170 (enc B), arC cI m2 60 T, arC cI m3 8 u]) 0 0 := by
  refine CE_int (cc := cX7_ofBalloon) (maxL := 3) (rt := .int) (by decide) rfl (Nat.le_of_ble_eq_true rfl) (fun _ _ => rfl) ?_
  intro p e s m below meth c A ls Q X hK hP hD hS hA hl hend
  have X : CallFix p m c cX7_ofBalloon 3 s ([.ref m0, .int (nI b), .int 3] : List Value).toArray wsX7_ofBalloon RX7 := X
  obtain ⟨hx, hb, hml, hown, hts⟩ := id X
  have hl : lv_has ls 3 [(0, .ref m0), (1, .int (nI b)), (2, .int 3)] := hl
  refine lv_iload_n hx hb dX7_ofBalloon_0 rfl (lv_at hl 2 rfl) ?_
  refine lv_tableIn (tgt := 52) hx hb dX7_ofBalloon_1 (by decide) (by decide) rfl (by decide) ?_
  refine lv_aload_n hx hb dX7_ofBalloon_52 rfl (lv_at hl 0 rfl) ?_
  refine lv_iconst (v := 0) hx hb dX7_ofBalloon_53 (by decide) ?_
  refine lv_eqi (y := nI (130 * 0)) (rfl) ?_
  refine lv_iload_n hx hb dX7_ofBalloon_54 rfl (lv_at hl 1 rfl) ?_
  refine kcallV (As := [.int (nI (130 * 0)), .int (nI b)]) (rest := []) (Wn := [mdO m0 m1 m2 m3 th sv kp ln ca lt fi sd hs, arC cI m1 1170 (enc B), arC cI m2 60 T, arC cI m3 8 h]) X (c_X7_lift l D cI cZ cS cJ m0 m1 m2 m3 th sv kp ln ca lt fi sd hs B T h 0 b (by omega) (by omega)) (cwV 2 hts gX7_ofBalloon_X7_lift rfl rfl rfl (by decide +kernel) ⟨Nat.le_of_ble_eq_true rfl, Nat.le_of_ble_eq_true rfl⟩) hK hP hD hS hA [0, 1, 2, 3] rfl (by decide +kernel) rfl rfl rfl 0 7 rfl rfl rfl hl.1 rfl (Nat.le_of_ble_eq_true rfl) dX7_ofBalloon_55 ⟨Nat.le_of_ble_eq_true rfl, Nat.le_of_ble_eq_true rfl⟩ (fun H locs hP hD hS => ?_)
  refine hend (h) _ _ _ _ _ trivial ?_ hP hD hS dX7_ofBalloon_58
  exact rfl

set_option maxHeartbeats 4000000 in
set_option maxRecDepth 100000 in
theorem c_X7_ofBalloon4 (l : Launch) (D : va_G) (cI cZ cS cJ : ClassId) (m0 : Nat) (m1 : Nat) (m2 : Nat) (m3 : Nat) (th : Int32) (sv : Int32) (kp : Int32) (ln : Int32) (ca : Int32) (lt : Int32) (fi : Int32) (sd : Int32) (hs : Int64) (B : Nat → Nat → Nat → Int32) (T : Nat → Int32) (h : Nat → Int32) (b : Nat) (hb8 : b < 8) (hG : GB (B 0)) (h6 : B 0 6 = ht (B 0)) : CE (U := (Nat → Int32)) l yX7_ofBalloon wsX7_ofBalloon ({ frames := 6, cells := 0, slots := 0, locals := 132 }) D (tyL cI cZ cS cJ) [.ref m0, .int (nI b), .int 4] (List.flatten [mdO m0 m1 m2 m3 th sv kp ln ca lt fi sd hs, arC cI m1 1170 (enc B), arC cI m2 60 T, arC cI m3 8 h]) (fun u => True) (fun u => some (.int (balS (B 0) b 4))) (fun u => List.flatten [mdO m0 m1 m2 m3 th sv kp ln ca lt fi sd hs, arC cI m1 1170 (enc B), arC cI m2 60 T, arC cI m3 8 u]) 0 0 := by
  refine CE_int (cc := cX7_ofBalloon) (maxL := 3) (rt := .int) (by decide) rfl (Nat.le_of_ble_eq_true rfl) (fun _ _ => rfl) ?_
  intro p e s m below meth c A ls Q X hK hP hD hS hA hl hend
  have X : CallFix p m c cX7_ofBalloon 3 s ([.ref m0, .int (nI b), .int 4] : List Value).toArray wsX7_ofBalloon RX7 := X
  obtain ⟨hx, hb, hml, hown, hts⟩ := id X
  have hl : lv_has ls 3 [(0, .ref m0), (1, .int (nI b)), (2, .int 4)] := hl
  refine lv_iload_n hx hb dX7_ofBalloon_0 rfl (lv_at hl 2 rfl) ?_
  refine lv_tableIn (tgt := 59) hx hb dX7_ofBalloon_1 (by decide) (by decide) rfl (by decide) ?_
  refine lv_aload_n hx hb dX7_ofBalloon_59 rfl (lv_at hl 0 rfl) ?_
  refine lv_iconst (v := 0) hx hb dX7_ofBalloon_60 (by decide) ?_
  refine lv_eqi (y := nI (130 * 0)) (rfl) ?_
  refine lv_iload_n hx hb dX7_ofBalloon_61 rfl (lv_at hl 1 rfl) ?_
  refine kcallV (As := [.int (nI (130 * 0)), .int (nI b)]) (rest := []) (Wn := [mdO m0 m1 m2 m3 th sv kp ln ca lt fi sd hs, arC cI m1 1170 (enc B), arC cI m2 60 T, arC cI m3 8 h]) X (c_X7_wants l D cI cZ cS cJ m0 m1 m2 m3 th sv kp ln ca lt fi sd hs B T h 0 b (by omega) (by omega)) (cwV 2 hts gX7_ofBalloon_X7_wants rfl rfl rfl (by decide +kernel) ⟨Nat.le_of_ble_eq_true rfl, Nat.le_of_ble_eq_true rfl⟩) hK hP hD hS hA [0, 1, 2, 3] rfl (by decide +kernel) rfl rfl rfl 0 7 rfl rfl rfl hl.1 rfl (Nat.le_of_ble_eq_true rfl) dX7_ofBalloon_62 ⟨Nat.le_of_ble_eq_true rfl, Nat.le_of_ble_eq_true rfl⟩ (fun H locs hP hD hS => ?_)
  refine hend (h) _ _ _ _ _ trivial ?_ hP hD hS dX7_ofBalloon_65
  exact rfl

set_option maxHeartbeats 4000000 in
set_option maxRecDepth 100000 in
theorem c_X7_ofBalloon5 (l : Launch) (D : va_G) (cI cZ cS cJ : ClassId) (m0 : Nat) (m1 : Nat) (m2 : Nat) (m3 : Nat) (th : Int32) (sv : Int32) (kp : Int32) (ln : Int32) (ca : Int32) (lt : Int32) (fi : Int32) (sd : Int32) (hs : Int64) (B : Nat → Nat → Nat → Int32) (T : Nat → Int32) (h : Nat → Int32) (b : Nat) (hb8 : b < 8) (hG : GB (B 0)) (h6 : B 0 6 = ht (B 0)) : CE (U := (Nat → Int32)) l yX7_ofBalloon wsX7_ofBalloon ({ frames := 6, cells := 0, slots := 0, locals := 132 }) D (tyL cI cZ cS cJ) [.ref m0, .int (nI b), .int 5] (List.flatten [mdO m0 m1 m2 m3 th sv kp ln ca lt fi sd hs, arC cI m1 1170 (enc B), arC cI m2 60 T, arC cI m3 8 h]) (fun u => True) (fun u => some (.int (balS (B 0) b 5))) (fun u => List.flatten [mdO m0 m1 m2 m3 th sv kp ln ca lt fi sd hs, arC cI m1 1170 (enc B), arC cI m2 60 T, arC cI m3 8 u]) 0 0 := by
  refine CE_int (cc := cX7_ofBalloon) (maxL := 3) (rt := .int) (by decide) rfl (Nat.le_of_ble_eq_true rfl) (fun _ _ => rfl) ?_
  intro p e s m below meth c A ls Q X hK hP hD hS hA hl hend
  have X : CallFix p m c cX7_ofBalloon 3 s ([.ref m0, .int (nI b), .int 5] : List Value).toArray wsX7_ofBalloon RX7 := X
  obtain ⟨hx, hb, hml, hown, hts⟩ := id X
  have hl : lv_has ls 3 [(0, .ref m0), (1, .int (nI b)), (2, .int 5)] := hl
  refine lv_iload_n hx hb dX7_ofBalloon_0 rfl (lv_at hl 2 rfl) ?_
  refine lv_tableIn (tgt := 66) hx hb dX7_ofBalloon_1 (by decide) (by decide) rfl (by decide) ?_
  refine lv_aload_n hx hb dX7_ofBalloon_66 rfl (lv_at hl 0 rfl) ?_
  refine lv_iload_n hx hb dX7_ofBalloon_67 rfl (lv_at hl 1 rfl) ?_
  refine kcallV (As := [.int (nI b)]) (rest := []) (Wn := [mdO m0 m1 m2 m3 th sv kp ln ca lt fi sd hs, arC cI m1 1170 (enc B), arC cI m2 60 T, arC cI m3 8 (ht (B 0))]) X (c_X7_heightOf l D cI cZ cS cJ m0 m1 m2 m3 th sv kp ln ca lt fi sd hs B T h b (by omega) (GB_T hG)) (cwV 1 hts gX7_ofBalloon_X7_heightOf rfl rfl rfl (by decide +kernel) ⟨Nat.le_of_ble_eq_true rfl, Nat.le_of_ble_eq_true rfl⟩) hK hP hD hS hA [0, 1, 2, 3] rfl (by decide +kernel) rfl rfl rfl 0 7 rfl rfl rfl hl.1 rfl (Nat.le_of_ble_eq_true rfl) dX7_ofBalloon_68 ⟨Nat.le_of_ble_eq_true rfl, Nat.le_of_ble_eq_true rfl⟩ (fun H locs hP hD hS => ?_)
  refine hend (ht (B 0)) _ _ _ _ _ trivial ?_ hP hD hS dX7_ofBalloon_71
  exact (congrFun h6 b).symm

set_option maxHeartbeats 4000000 in
set_option maxRecDepth 100000 in
theorem c_X7_ofBalloon6 (l : Launch) (D : va_G) (cI cZ cS cJ : ClassId) (m0 : Nat) (m1 : Nat) (m2 : Nat) (m3 : Nat) (th : Int32) (sv : Int32) (kp : Int32) (ln : Int32) (ca : Int32) (lt : Int32) (fi : Int32) (sd : Int32) (hs : Int64) (B : Nat → Nat → Nat → Int32) (T : Nat → Int32) (h : Nat → Int32) (b : Nat) (hb8 : b < 8) (hG : GB (B 0)) (h6 : B 0 6 = ht (B 0)) : CE (U := (Nat → Int32)) l yX7_ofBalloon wsX7_ofBalloon ({ frames := 6, cells := 0, slots := 0, locals := 132 }) D (tyL cI cZ cS cJ) [.ref m0, .int (nI b), .int 6] (List.flatten [mdO m0 m1 m2 m3 th sv kp ln ca lt fi sd hs, arC cI m1 1170 (enc B), arC cI m2 60 T, arC cI m3 8 h]) (fun u => True) (fun u => some (.int (balS (B 0) b 6))) (fun u => List.flatten [mdO m0 m1 m2 m3 th sv kp ln ca lt fi sd hs, arC cI m1 1170 (enc B), arC cI m2 60 T, arC cI m3 8 u]) 0 0 := by
  refine CE_int (cc := cX7_ofBalloon) (maxL := 3) (rt := .int) (by decide) rfl (Nat.le_of_ble_eq_true rfl) (fun _ _ => rfl) ?_
  intro p e s m below meth c A ls Q X hK hP hD hS hA hl hend
  have X : CallFix p m c cX7_ofBalloon 3 s ([.ref m0, .int (nI b), .int 6] : List Value).toArray wsX7_ofBalloon RX7 := X
  obtain ⟨hx, hb, hml, hown, hts⟩ := id X
  have hl : lv_has ls 3 [(0, .ref m0), (1, .int (nI b)), (2, .int 6)] := hl
  refine lv_iload_n hx hb dX7_ofBalloon_0 rfl (lv_at hl 2 rfl) ?_
  refine lv_tableIn (tgt := 66) hx hb dX7_ofBalloon_1 (by decide) (by decide) rfl (by decide) ?_
  refine lv_aload_n hx hb dX7_ofBalloon_66 rfl (lv_at hl 0 rfl) ?_
  refine lv_iload_n hx hb dX7_ofBalloon_67 rfl (lv_at hl 1 rfl) ?_
  refine kcallV (As := [.int (nI b)]) (rest := []) (Wn := [mdO m0 m1 m2 m3 th sv kp ln ca lt fi sd hs, arC cI m1 1170 (enc B), arC cI m2 60 T, arC cI m3 8 (ht (B 0))]) X (c_X7_heightOf l D cI cZ cS cJ m0 m1 m2 m3 th sv kp ln ca lt fi sd hs B T h b (by omega) (GB_T hG)) (cwV 1 hts gX7_ofBalloon_X7_heightOf rfl rfl rfl (by decide +kernel) ⟨Nat.le_of_ble_eq_true rfl, Nat.le_of_ble_eq_true rfl⟩) hK hP hD hS hA [0, 1, 2, 3] rfl (by decide +kernel) rfl rfl rfl 0 7 rfl rfl rfl hl.1 rfl (Nat.le_of_ble_eq_true rfl) dX7_ofBalloon_68 ⟨Nat.le_of_ble_eq_true rfl, Nat.le_of_ble_eq_true rfl⟩ (fun H locs hP hD hS => ?_)
  refine hend (ht (B 0)) _ _ _ _ _ trivial ?_ hP hD hS dX7_ofBalloon_71
  exact (hbs_ht hG hb8).symm

set_option maxHeartbeats 4000000 in
set_option maxRecDepth 100000 in
theorem c_X7_ofBalloon7 (l : Launch) (D : va_G) (cI cZ cS cJ : ClassId) (m0 : Nat) (m1 : Nat) (m2 : Nat) (m3 : Nat) (th : Int32) (sv : Int32) (kp : Int32) (ln : Int32) (ca : Int32) (lt : Int32) (fi : Int32) (sd : Int32) (hs : Int64) (B : Nat → Nat → Nat → Int32) (T : Nat → Int32) (h : Nat → Int32) (b : Nat) (hb8 : b < 8) (hG : GB (B 0)) (h6 : B 0 6 = ht (B 0)) : CE (U := (Nat → Int32)) l yX7_ofBalloon wsX7_ofBalloon ({ frames := 6, cells := 0, slots := 0, locals := 132 }) D (tyL cI cZ cS cJ) [.ref m0, .int (nI b), .int 7] (List.flatten [mdO m0 m1 m2 m3 th sv kp ln ca lt fi sd hs, arC cI m1 1170 (enc B), arC cI m2 60 T, arC cI m3 8 h]) (fun u => True) (fun u => some (.int (balS (B 0) b 7))) (fun u => List.flatten [mdO m0 m1 m2 m3 th sv kp ln ca lt fi sd hs, arC cI m1 1170 (enc B), arC cI m2 60 T, arC cI m3 8 u]) 0 0 := by
  refine CE_int (cc := cX7_ofBalloon) (maxL := 3) (rt := .int) (by decide) rfl (Nat.le_of_ble_eq_true rfl) (fun _ _ => rfl) ?_
  intro p e s m below meth c A ls Q X hK hP hD hS hA hl hend
  have X : CallFix p m c cX7_ofBalloon 3 s ([.ref m0, .int (nI b), .int 7] : List Value).toArray wsX7_ofBalloon RX7 := X
  obtain ⟨hx, hb, hml, hown, hts⟩ := id X
  have hl : lv_has ls 3 [(0, .ref m0), (1, .int (nI b)), (2, .int 7)] := hl
  refine lv_iload_n hx hb dX7_ofBalloon_0 rfl (lv_at hl 2 rfl) ?_
  refine lv_tableIn (tgt := 72) hx hb dX7_ofBalloon_1 (by decide) (by decide) rfl (by decide) ?_
  refine lv_aload_n hx hb dX7_ofBalloon_72 rfl (lv_at hl 0 rfl) ?_
  refine lv_iconst (v := 0) hx hb dX7_ofBalloon_73 (by decide) ?_
  refine lv_eqi (y := nI (130 * 0)) (rfl) ?_
  refine lv_iload_n hx hb dX7_ofBalloon_74 rfl (lv_at hl 1 rfl) ?_
  refine lv_iconst (v := 3) hx hb dX7_ofBalloon_75 (by decide) ?_
  refine kcallV (As := [.int (nI (130 * 0)), .int (nI b), .int 3]) (rest := []) (Wn := [mdO m0 m1 m2 m3 th sv kp ln ca lt fi sd hs, arC cI m1 1170 (enc B), arC cI m2 60 T, arC cI m3 8 h]) X (c_X7_of3 l D cI cZ cS cJ m0 m1 m2 m3 th sv kp ln ca lt fi sd hs B T h 0 b (by omega) (by omega)) (cwV 3 hts gX7_ofBalloon_X7_of rfl rfl rfl (by decide +kernel) ⟨Nat.le_of_ble_eq_true rfl, Nat.le_of_ble_eq_true rfl⟩) hK hP hD hS hA [0, 1, 2, 3] rfl (by decide +kernel) rfl rfl rfl 0 7 rfl rfl rfl hl.1 rfl (Nat.le_of_ble_eq_true rfl) dX7_ofBalloon_76 ⟨Nat.le_of_ble_eq_true rfl, Nat.le_of_ble_eq_true rfl⟩ (fun H locs hP hD hS => ?_)
  refine hend (h) _ _ _ _ _ trivial ?_ hP hD hS dX7_ofBalloon_79
  exact rfl

set_option maxHeartbeats 4000000 in
set_option maxRecDepth 100000 in
theorem c_X7_ofBalloon8 (l : Launch) (D : va_G) (cI cZ cS cJ : ClassId) (m0 : Nat) (m1 : Nat) (m2 : Nat) (m3 : Nat) (th : Int32) (sv : Int32) (kp : Int32) (ln : Int32) (ca : Int32) (lt : Int32) (fi : Int32) (sd : Int32) (hs : Int64) (B : Nat → Nat → Nat → Int32) (T : Nat → Int32) (h : Nat → Int32) (b : Nat) (hb8 : b < 8) (hG : GB (B 0)) (h6 : B 0 6 = ht (B 0)) : CE (U := (Nat → Int32)) l yX7_ofBalloon wsX7_ofBalloon ({ frames := 6, cells := 0, slots := 0, locals := 132 }) D (tyL cI cZ cS cJ) [.ref m0, .int (nI b), .int 8] (List.flatten [mdO m0 m1 m2 m3 th sv kp ln ca lt fi sd hs, arC cI m1 1170 (enc B), arC cI m2 60 T, arC cI m3 8 h]) (fun u => True) (fun u => some (.int (balS (B 0) b 8))) (fun u => List.flatten [mdO m0 m1 m2 m3 th sv kp ln ca lt fi sd hs, arC cI m1 1170 (enc B), arC cI m2 60 T, arC cI m3 8 u]) 0 0 := by
  refine CE_int (cc := cX7_ofBalloon) (maxL := 3) (rt := .int) (by decide) rfl (Nat.le_of_ble_eq_true rfl) (fun _ _ => rfl) ?_
  intro p e s m below meth c A ls Q X hK hP hD hS hA hl hend
  have X : CallFix p m c cX7_ofBalloon 3 s ([.ref m0, .int (nI b), .int 8] : List Value).toArray wsX7_ofBalloon RX7 := X
  obtain ⟨hx, hb, hml, hown, hts⟩ := id X
  have hl : lv_has ls 3 [(0, .ref m0), (1, .int (nI b)), (2, .int 8)] := hl
  have hinX7 : ∀ w ∈ u_ws RX7 TX7 12, w ∈ wsX7_ofBalloon := by decide +kernel
  refine lv_iload_n hx hb dX7_ofBalloon_0 rfl (lv_at hl 2 rfl) ?_
  refine lv_tableIn (tgt := 80) hx hb dX7_ofBalloon_1 (by decide) (by decide) rfl (by decide) ?_
  refine lv_aload_n hx hb dX7_ofBalloon_80 rfl (lv_at hl 0 rfl) ?_
  refine va_get (D := D) (ci := 7) (v := .ref m1) (C := RX7) (T := TX7) (N := 12) hx hb hts hinX7 hown hK hP 0 rfl rfl 1 (by decide) (hts (.fieldLink RX7 7 "RibbonBalloonsModel" "s" "[I") (by decide +kernel)) (fun _ h9 => h9) rfl dX7_ofBalloon_81 ?_
  refine lv_iconst (v := 0) hx hb dX7_ofBalloon_84 (by decide) ?_
  refine r_iald hx hb hK hP 1 0 0 (f := enc B) rfl rfl (by omega) (by omega) dX7_ofBalloon_85 ?_
  refine lv_eqi (y := B 0 12 0) (enc_at0 B (by decide)) ?_
  refine lv_aload_n hx hb dX7_ofBalloon_86 rfl (lv_at hl 0 rfl) ?_
  refine lv_iconst (v := 0) hx hb dX7_ofBalloon_87 (by decide) ?_
  refine lv_eqi (y := nI (130 * 0)) (rfl) ?_
  refine lv_iload_n hx hb dX7_ofBalloon_88 rfl (lv_at hl 1 rfl) ?_
  refine lv_iconst (v := 4) hx hb dX7_ofBalloon_89 (by decide) ?_
  refine kcallV (As := [.int (nI (130 * 0)), .int (nI b), .int 4]) (rest := [.int (B 0 12 0)]) (Wn := [mdO m0 m1 m2 m3 th sv kp ln ca lt fi sd hs, arC cI m1 1170 (enc B), arC cI m2 60 T, arC cI m3 8 h]) X (c_X7_of4 l D cI cZ cS cJ m0 m1 m2 m3 th sv kp ln ca lt fi sd hs B T h 0 b (by omega) (by omega)) (cwV 3 hts gX7_ofBalloon_X7_of rfl rfl rfl (by decide +kernel) ⟨Nat.le_of_ble_eq_true rfl, Nat.le_of_ble_eq_true rfl⟩) hK hP hD hS hA [0, 1, 2, 3] rfl (by decide +kernel) rfl rfl rfl 0 7 rfl rfl rfl hl.1 rfl (Nat.le_of_ble_eq_true rfl) dX7_ofBalloon_90 ⟨Nat.le_of_ble_eq_true rfl, Nat.le_of_ble_eq_true rfl⟩ (fun H locs hP hD hS => ?_)
  refine lv_isub hx hb dX7_ofBalloon_93 ?_
  refine hend (h) _ _ _ _ _ trivial ?_ hP hD hS dX7_ofBalloon_94
  exact rfl

set_option maxHeartbeats 4000000 in
set_option maxRecDepth 100000 in
theorem c_X7_ofBalloon9 (l : Launch) (D : va_G) (cI cZ cS cJ : ClassId) (m0 : Nat) (m1 : Nat) (m2 : Nat) (m3 : Nat) (th : Int32) (sv : Int32) (kp : Int32) (ln : Int32) (ca : Int32) (lt : Int32) (fi : Int32) (sd : Int32) (hs : Int64) (B : Nat → Nat → Nat → Int32) (T : Nat → Int32) (h : Nat → Int32) (b : Nat) (hb8 : b < 8) (hG : GB (B 0)) (h6 : B 0 6 = ht (B 0)) : CE (U := (Nat → Int32)) l yX7_ofBalloon wsX7_ofBalloon ({ frames := 6, cells := 0, slots := 0, locals := 132 }) D (tyL cI cZ cS cJ) [.ref m0, .int (nI b), .int 9] (List.flatten [mdO m0 m1 m2 m3 th sv kp ln ca lt fi sd hs, arC cI m1 1170 (enc B), arC cI m2 60 T, arC cI m3 8 h]) (fun u => True) (fun u => some (.int (balS (B 0) b 9))) (fun u => List.flatten [mdO m0 m1 m2 m3 th sv kp ln ca lt fi sd hs, arC cI m1 1170 (enc B), arC cI m2 60 T, arC cI m3 8 u]) 0 0 := by
  refine CE_int (cc := cX7_ofBalloon) (maxL := 3) (rt := .int) (by decide) rfl (Nat.le_of_ble_eq_true rfl) (fun _ _ => rfl) ?_
  intro p e s m below meth c A ls Q X hK hP hD hS hA hl hend
  have X : CallFix p m c cX7_ofBalloon 3 s ([.ref m0, .int (nI b), .int 9] : List Value).toArray wsX7_ofBalloon RX7 := X
  obtain ⟨hx, hb, hml, hown, hts⟩ := id X
  have hl : lv_has ls 3 [(0, .ref m0), (1, .int (nI b)), (2, .int 9)] := hl
  refine lv_iload_n hx hb dX7_ofBalloon_0 rfl (lv_at hl 2 rfl) ?_
  refine lv_tableIn (tgt := 95) hx hb dX7_ofBalloon_1 (by decide) (by decide) rfl (by decide) ?_
  refine lv_aload_n hx hb dX7_ofBalloon_95 rfl (lv_at hl 0 rfl) ?_
  refine lv_iload_n hx hb dX7_ofBalloon_96 rfl (lv_at hl 1 rfl) ?_
  refine kcallV (As := [.int (nI b)]) (rest := []) (Wn := [mdO m0 m1 m2 m3 th sv kp ln ca lt fi sd hs, arC cI m1 1170 (enc B), arC cI m2 60 T, arC cI m3 8 (ht (B 0))]) X (c_X7_tells l D cI cZ cS cJ m0 m1 m2 m3 th sv kp ln ca lt fi sd hs B T h b (by omega) (GB_T hG)) (cwV 1 hts gX7_ofBalloon_X7_tells rfl rfl rfl (by decide +kernel) ⟨Nat.le_of_ble_eq_true rfl, Nat.le_of_ble_eq_true rfl⟩) hK hP hD hS hA [0, 1, 2, 3] rfl (by decide +kernel) rfl rfl rfl 0 7 rfl rfl rfl hl.1 rfl (Nat.le_of_ble_eq_true rfl) dX7_ofBalloon_97 ⟨Nat.le_of_ble_eq_true rfl, Nat.le_of_ble_eq_true rfl⟩ (fun H locs hP hD hS => ?_)
  refine lv_eqi (y := tel (B 0) b) (by rw [mend_id h6]) ?_
  refine hend (ht (B 0)) _ _ _ _ _ trivial ?_ hP hD hS dX7_ofBalloon_100
  exact rfl

set_option maxHeartbeats 4000000 in
set_option maxRecDepth 100000 in
theorem c_X7_ofBalloon10 (l : Launch) (D : va_G) (cI cZ cS cJ : ClassId) (m0 : Nat) (m1 : Nat) (m2 : Nat) (m3 : Nat) (th : Int32) (sv : Int32) (kp : Int32) (ln : Int32) (ca : Int32) (lt : Int32) (fi : Int32) (sd : Int32) (hs : Int64) (B : Nat → Nat → Nat → Int32) (T : Nat → Int32) (h : Nat → Int32) (b : Nat) (hb8 : b < 8) (hG : GB (B 0)) (h6 : B 0 6 = ht (B 0)) : CE (U := (Nat → Int32)) l yX7_ofBalloon wsX7_ofBalloon ({ frames := 6, cells := 0, slots := 0, locals := 132 }) D (tyL cI cZ cS cJ) [.ref m0, .int (nI b), .int 10] (List.flatten [mdO m0 m1 m2 m3 th sv kp ln ca lt fi sd hs, arC cI m1 1170 (enc B), arC cI m2 60 T, arC cI m3 8 h]) (fun u => True) (fun u => some (.int (balS (B 0) b 10))) (fun u => List.flatten [mdO m0 m1 m2 m3 th sv kp ln ca lt fi sd hs, arC cI m1 1170 (enc B), arC cI m2 60 T, arC cI m3 8 u]) 0 0 := by
  refine CE_int (cc := cX7_ofBalloon) (maxL := 3) (rt := .int) (by decide) rfl (Nat.le_of_ble_eq_true rfl) (fun _ _ => rfl) ?_
  intro p e s m below meth c A ls Q X hK hP hD hS hA hl hend
  have X : CallFix p m c cX7_ofBalloon 3 s ([.ref m0, .int (nI b), .int 10] : List Value).toArray wsX7_ofBalloon RX7 := X
  obtain ⟨hx, hb, hml, hown, hts⟩ := id X
  have hl : lv_has ls 3 [(0, .ref m0), (1, .int (nI b)), (2, .int 10)] := hl
  refine lv_iload_n hx hb dX7_ofBalloon_0 rfl (lv_at hl 2 rfl) ?_
  refine lv_tableIn (tgt := 101) hx hb dX7_ofBalloon_1 (by decide) (by decide) rfl (by decide) ?_
  refine lv_aload_n hx hb dX7_ofBalloon_101 rfl (lv_at hl 0 rfl) ?_
  refine lv_iload_n hx hb dX7_ofBalloon_102 rfl (lv_at hl 1 rfl) ?_
  refine kcallV (As := [.int (nI b)]) (rest := []) (Wn := [mdO m0 m1 m2 m3 th sv kp ln ca lt fi sd hs, arC cI m1 1170 (enc B), arC cI m2 60 T, arC cI m3 8 h]) X (c_X7_lowestOf l D cI cZ cS cJ m0 m1 m2 m3 th sv kp ln ca lt fi sd hs B T h b (by omega) (GB_T hG)) (cwV 1 hts gX7_ofBalloon_X7_lowestOf rfl rfl rfl (by decide +kernel) ⟨Nat.le_of_ble_eq_true rfl, Nat.le_of_ble_eq_true rfl⟩) hK hP hD hS hA [0, 1, 2, 3] rfl (by decide +kernel) rfl rfl rfl 0 7 rfl rfl rfl hl.1 rfl (Nat.le_of_ble_eq_true rfl) dX7_ofBalloon_103 ⟨Nat.le_of_ble_eq_true rfl, Nat.le_of_ble_eq_true rfl⟩ (fun H locs hP hD hS => ?_)
  refine hend (h) _ _ _ _ _ trivial ?_ hP hD hS dX7_ofBalloon_106
  exact rfl

set_option maxHeartbeats 4000000 in
set_option maxRecDepth 100000 in
theorem c_X7_ofBalloon11 (l : Launch) (D : va_G) (cI cZ cS cJ : ClassId) (m0 : Nat) (m1 : Nat) (m2 : Nat) (m3 : Nat) (th : Int32) (sv : Int32) (kp : Int32) (ln : Int32) (ca : Int32) (lt : Int32) (fi : Int32) (sd : Int32) (hs : Int64) (B : Nat → Nat → Nat → Int32) (T : Nat → Int32) (h : Nat → Int32) (b : Nat) (hb8 : b < 8) (hG : GB (B 0)) (h6 : B 0 6 = ht (B 0)) : CE (U := (Nat → Int32)) l yX7_ofBalloon wsX7_ofBalloon ({ frames := 6, cells := 0, slots := 0, locals := 132 }) D (tyL cI cZ cS cJ) [.ref m0, .int (nI b), .int 11] (List.flatten [mdO m0 m1 m2 m3 th sv kp ln ca lt fi sd hs, arC cI m1 1170 (enc B), arC cI m2 60 T, arC cI m3 8 h]) (fun u => True) (fun u => some (.int (balS (B 0) b 11))) (fun u => List.flatten [mdO m0 m1 m2 m3 th sv kp ln ca lt fi sd hs, arC cI m1 1170 (enc B), arC cI m2 60 T, arC cI m3 8 u]) 0 0 := by
  refine CE_int (cc := cX7_ofBalloon) (maxL := 3) (rt := .int) (by decide) rfl (Nat.le_of_ble_eq_true rfl) (fun _ _ => rfl) ?_
  intro p e s m below meth c A ls Q X hK hP hD hS hA hl hend
  have X : CallFix p m c cX7_ofBalloon 3 s ([.ref m0, .int (nI b), .int 11] : List Value).toArray wsX7_ofBalloon RX7 := X
  obtain ⟨hx, hb, hml, hown, hts⟩ := id X
  have hl : lv_has ls 3 [(0, .ref m0), (1, .int (nI b)), (2, .int 11)] := hl
  refine lv_iload_n hx hb dX7_ofBalloon_0 rfl (lv_at hl 2 rfl) ?_
  refine lv_tableIn (tgt := 107) hx hb dX7_ofBalloon_1 (by decide) (by decide) rfl (by decide) ?_
  refine lv_aload_n hx hb dX7_ofBalloon_107 rfl (lv_at hl 0 rfl) ?_
  refine lv_iload_n hx hb dX7_ofBalloon_108 rfl (lv_at hl 1 rfl) ?_
  refine kcallV (As := [.int (nI b)]) (rest := []) (Wn := [mdO m0 m1 m2 m3 th sv kp ln ca lt fi sd hs, arC cI m1 1170 (enc B), arC cI m2 60 T, arC cI m3 8 h]) X (c_X7_stringOf l D cI cZ cS cJ m0 m1 m2 m3 th sv kp ln ca lt fi sd hs B T h b (by omega) (GB_T hG)) (cwV 1 hts gX7_ofBalloon_X7_stringOf rfl rfl rfl (by decide +kernel) ⟨Nat.le_of_ble_eq_true rfl, Nat.le_of_ble_eq_true rfl⟩) hK hP hD hS hA [0, 1, 2, 3] rfl (by decide +kernel) rfl rfl rfl 0 7 rfl rfl rfl hl.1 rfl (Nat.le_of_ble_eq_true rfl) dX7_ofBalloon_109 ⟨Nat.le_of_ble_eq_true rfl, Nat.le_of_ble_eq_true rfl⟩ (fun H locs hP hD hS => ?_)
  refine hend (h) _ _ _ _ _ trivial ?_ hP hD hS dX7_ofBalloon_112
  exact rfl

set_option maxHeartbeats 4000000 in
set_option maxRecDepth 100000 in
theorem c_X7_ofBalloon (l : Launch) (D : va_G) (cI cZ cS cJ : ClassId) (m0 : Nat) (m1 : Nat) (m2 : Nat) (m3 : Nat) (th : Int32) (sv : Int32) (kp : Int32) (ln : Int32) (ca : Int32) (lt : Int32) (fi : Int32) (sd : Int32) (hs : Int64) (B : Nat → Nat → Nat → Int32) (T : Nat → Int32) (h : Nat → Int32) (b : Nat) (w : Nat) (hb8 : b < 8) (hG : GB (B 0)) (h6 : B 0 6 = ht (B 0)) (hw : w < 12) : CE (U := (Nat → Int32)) l yX7_ofBalloon wsX7_ofBalloon ({ frames := 6, cells := 0, slots := 0, locals := 132 }) D (tyL cI cZ cS cJ) [.ref m0, .int (nI b), .int (nI w)] (List.flatten [mdO m0 m1 m2 m3 th sv kp ln ca lt fi sd hs, arC cI m1 1170 (enc B), arC cI m2 60 T, arC cI m3 8 h]) (fun u => True) (fun u => some (.int (balS (B 0) b w))) (fun u => List.flatten [mdO m0 m1 m2 m3 th sv kp ln ca lt fi sd hs, arC cI m1 1170 (enc B), arC cI m2 60 T, arC cI m3 8 u]) 0 0 := by
  rcases (show w = 0 ∨ w = 1 ∨ w = 2 ∨ w = 3 ∨ w = 4 ∨ w = 5 ∨ w = 6 ∨ w = 7 ∨ w = 8 ∨ w = 9 ∨ w = 10 ∨ w = 11 by omega) with rfl | rfl | rfl | rfl | rfl | rfl | rfl | rfl | rfl | rfl | rfl | rfl
  · exact c_X7_ofBalloon0 l D cI cZ cS cJ m0 m1 m2 m3 th sv kp ln ca lt fi sd hs B T h b hb8 hG h6
  · exact c_X7_ofBalloon1 l D cI cZ cS cJ m0 m1 m2 m3 th sv kp ln ca lt fi sd hs B T h b hb8 hG h6
  · exact c_X7_ofBalloon2 l D cI cZ cS cJ m0 m1 m2 m3 th sv kp ln ca lt fi sd hs B T h b hb8 hG h6
  · exact c_X7_ofBalloon3 l D cI cZ cS cJ m0 m1 m2 m3 th sv kp ln ca lt fi sd hs B T h b hb8 hG h6
  · exact c_X7_ofBalloon4 l D cI cZ cS cJ m0 m1 m2 m3 th sv kp ln ca lt fi sd hs B T h b hb8 hG h6
  · exact c_X7_ofBalloon5 l D cI cZ cS cJ m0 m1 m2 m3 th sv kp ln ca lt fi sd hs B T h b hb8 hG h6
  · exact c_X7_ofBalloon6 l D cI cZ cS cJ m0 m1 m2 m3 th sv kp ln ca lt fi sd hs B T h b hb8 hG h6
  · exact c_X7_ofBalloon7 l D cI cZ cS cJ m0 m1 m2 m3 th sv kp ln ca lt fi sd hs B T h b hb8 hG h6
  · exact c_X7_ofBalloon8 l D cI cZ cS cJ m0 m1 m2 m3 th sv kp ln ca lt fi sd hs B T h b hb8 hG h6
  · exact c_X7_ofBalloon9 l D cI cZ cS cJ m0 m1 m2 m3 th sv kp ln ca lt fi sd hs B T h b hb8 hG h6
  · exact c_X7_ofBalloon10 l D cI cZ cS cJ m0 m1 m2 m3 th sv kp ln ca lt fi sd hs B T h b hb8 hG h6
  · exact c_X7_ofBalloon11 l D cI cZ cS cJ m0 m1 m2 m3 th sv kp ln ca lt fi sd hs B T h b hb8 hG h6

set_option maxHeartbeats 4000000 in
set_option maxRecDepth 100000 in
theorem c_X7_ofRibbon0 (l : Launch) (D : va_G) (cI cZ cS cJ : ClassId) (m0 : Nat) (m1 : Nat) (m2 : Nat) (m3 : Nat) (th : Int32) (sv : Int32) (kp : Int32) (ln : Int32) (ca : Int32) (lt : Int32) (fi : Int32) (sd : Int32) (hs : Int64) (B : Nat → Nat → Nat → Int32) (T : Nat → Int32) (h : Nat → Int32) (r : Nat) (hr7 : r < 7) (hG : GB (B 0)) (h6 : B 0 6 = ht (B 0)) : CE (U := (Nat → Int32)) l yX7_ofRibbon wsX7_ofRibbon ({ frames := 4, cells := 0, slots := 0, locals := 94 }) D (tyL cI cZ cS cJ) [.ref m0, .int (nI r), .int 0] (List.flatten [mdO m0 m1 m2 m3 th sv kp ln ca lt fi sd hs, arC cI m1 1170 (enc B), arC cI m2 60 T, arC cI m3 8 h]) (fun u => True) (fun u => some (.int (ribS (B 0) r 0))) (fun u => List.flatten [mdO m0 m1 m2 m3 th sv kp ln ca lt fi sd hs, arC cI m1 1170 (enc B), arC cI m2 60 T, arC cI m3 8 u]) 0 0 := by
  refine CE_int (cc := cX7_ofRibbon) (maxL := 4) (rt := .int) (by decide) rfl (Nat.le_of_ble_eq_true rfl) (fun _ _ => rfl) ?_
  intro p e s m below meth c A ls Q X hK hP hD hS hA hl hend
  have X : CallFix p m c cX7_ofRibbon 4 s ([.ref m0, .int (nI r), .int 0] : List Value).toArray wsX7_ofRibbon RX7 := X
  obtain ⟨hx, hb, hml, hown, hts⟩ := id X
  have hl : lv_has ls 4 [(0, .ref m0), (1, .int (nI r)), (2, .int 0)] := hl
  have hinX7 : ∀ w ∈ u_ws RX7 TX7 12, w ∈ wsX7_ofRibbon := by decide +kernel
  refine lv_iload_n hx hb dX7_ofRibbon_0 rfl (lv_at hl 2 rfl) ?_
  refine lv_iconst (v := 3) hx hb dX7_ofRibbon_1 (by decide) ?_
  refine lv_icmp_ge (tgt := 19) hx hb dX7_ofRibbon_2 (by decide) (fun h => absurd h (by decide)) (fun _ => ?_)
  refine lv_aload_n hx hb dX7_ofRibbon_5 rfl (lv_at hl 0 rfl) ?_
  refine va_get (D := D) (ci := 7) (v := .ref m1) (C := RX7) (T := TX7) (N := 12) hx hb hts hinX7 hown hK hP 0 rfl rfl 1 (by decide) (hts (.fieldLink RX7 7 "RibbonBalloonsModel" "s" "[I") (by decide +kernel)) (fun _ h9 => h9) rfl dX7_ofRibbon_6 ?_
  refine lv_bipush (v := 49) hx hb dX7_ofRibbon_9 (by decide) ?_
  refine lv_iconst (v := 3) hx hb dX7_ofRibbon_11 (by decide) ?_
  refine lv_iload_n hx hb dX7_ofRibbon_12 rfl (lv_at hl 1 rfl) ?_
  refine lv_imul hx hb dX7_ofRibbon_13 ?_
  refine lv_eqi (y := nI (3 * r)) (pk_mul _ _) ?_
  refine lv_iadd hx hb dX7_ofRibbon_14 ?_
  refine lv_eqi (y := nI (49 + (3 * r))) (nI_add _ _) ?_
  refine lv_iload_n hx hb dX7_ofRibbon_15 rfl (lv_at hl 2 rfl) ?_
  refine lv_iadd hx hb dX7_ofRibbon_16 ?_
  refine lv_eqi (y := nI ((49 + (3 * r)) + 0)) (nI_add _ _) ?_
  refine r_iald hx hb hK hP 1 0 ((49 + (3 * r)) + 0) (f := enc B) rfl rfl (by omega) (by omega) dX7_ofRibbon_17 ?_
  refine hend (h) _ _ _ _ _ trivial ?_ hP hD hS dX7_ofRibbon_18
  (rw [enc_q0 B (w := 0) hr7 (by decide)]; exact rib0 (GB_T hG r hr7))

set_option maxHeartbeats 4000000 in
set_option maxRecDepth 100000 in
theorem c_X7_ofRibbon1 (l : Launch) (D : va_G) (cI cZ cS cJ : ClassId) (m0 : Nat) (m1 : Nat) (m2 : Nat) (m3 : Nat) (th : Int32) (sv : Int32) (kp : Int32) (ln : Int32) (ca : Int32) (lt : Int32) (fi : Int32) (sd : Int32) (hs : Int64) (B : Nat → Nat → Nat → Int32) (T : Nat → Int32) (h : Nat → Int32) (r : Nat) (hr7 : r < 7) (hG : GB (B 0)) (h6 : B 0 6 = ht (B 0)) : CE (U := (Nat → Int32)) l yX7_ofRibbon wsX7_ofRibbon ({ frames := 4, cells := 0, slots := 0, locals := 94 }) D (tyL cI cZ cS cJ) [.ref m0, .int (nI r), .int 1] (List.flatten [mdO m0 m1 m2 m3 th sv kp ln ca lt fi sd hs, arC cI m1 1170 (enc B), arC cI m2 60 T, arC cI m3 8 h]) (fun u => True) (fun u => some (.int (ribS (B 0) r 1))) (fun u => List.flatten [mdO m0 m1 m2 m3 th sv kp ln ca lt fi sd hs, arC cI m1 1170 (enc B), arC cI m2 60 T, arC cI m3 8 u]) 0 0 := by
  refine CE_int (cc := cX7_ofRibbon) (maxL := 4) (rt := .int) (by decide) rfl (Nat.le_of_ble_eq_true rfl) (fun _ _ => rfl) ?_
  intro p e s m below meth c A ls Q X hK hP hD hS hA hl hend
  have X : CallFix p m c cX7_ofRibbon 4 s ([.ref m0, .int (nI r), .int 1] : List Value).toArray wsX7_ofRibbon RX7 := X
  obtain ⟨hx, hb, hml, hown, hts⟩ := id X
  have hl : lv_has ls 4 [(0, .ref m0), (1, .int (nI r)), (2, .int 1)] := hl
  have hinX7 : ∀ w ∈ u_ws RX7 TX7 12, w ∈ wsX7_ofRibbon := by decide +kernel
  refine lv_iload_n hx hb dX7_ofRibbon_0 rfl (lv_at hl 2 rfl) ?_
  refine lv_iconst (v := 3) hx hb dX7_ofRibbon_1 (by decide) ?_
  refine lv_icmp_ge (tgt := 19) hx hb dX7_ofRibbon_2 (by decide) (fun h => absurd h (by decide)) (fun _ => ?_)
  refine lv_aload_n hx hb dX7_ofRibbon_5 rfl (lv_at hl 0 rfl) ?_
  refine va_get (D := D) (ci := 7) (v := .ref m1) (C := RX7) (T := TX7) (N := 12) hx hb hts hinX7 hown hK hP 0 rfl rfl 1 (by decide) (hts (.fieldLink RX7 7 "RibbonBalloonsModel" "s" "[I") (by decide +kernel)) (fun _ h9 => h9) rfl dX7_ofRibbon_6 ?_
  refine lv_bipush (v := 49) hx hb dX7_ofRibbon_9 (by decide) ?_
  refine lv_iconst (v := 3) hx hb dX7_ofRibbon_11 (by decide) ?_
  refine lv_iload_n hx hb dX7_ofRibbon_12 rfl (lv_at hl 1 rfl) ?_
  refine lv_imul hx hb dX7_ofRibbon_13 ?_
  refine lv_eqi (y := nI (3 * r)) (pk_mul _ _) ?_
  refine lv_iadd hx hb dX7_ofRibbon_14 ?_
  refine lv_eqi (y := nI (49 + (3 * r))) (nI_add _ _) ?_
  refine lv_iload_n hx hb dX7_ofRibbon_15 rfl (lv_at hl 2 rfl) ?_
  refine lv_iadd hx hb dX7_ofRibbon_16 ?_
  refine lv_eqi (y := nI ((49 + (3 * r)) + 1)) (nI_add _ _) ?_
  refine r_iald hx hb hK hP 1 0 ((49 + (3 * r)) + 1) (f := enc B) rfl rfl (by omega) (by omega) dX7_ofRibbon_17 ?_
  refine hend (h) _ _ _ _ _ trivial ?_ hP hD hS dX7_ofRibbon_18
  exact enc_q0 B (w := 1) hr7 (by decide)

set_option maxHeartbeats 4000000 in
set_option maxRecDepth 100000 in
theorem c_X7_ofRibbon2 (l : Launch) (D : va_G) (cI cZ cS cJ : ClassId) (m0 : Nat) (m1 : Nat) (m2 : Nat) (m3 : Nat) (th : Int32) (sv : Int32) (kp : Int32) (ln : Int32) (ca : Int32) (lt : Int32) (fi : Int32) (sd : Int32) (hs : Int64) (B : Nat → Nat → Nat → Int32) (T : Nat → Int32) (h : Nat → Int32) (r : Nat) (hr7 : r < 7) (hG : GB (B 0)) (h6 : B 0 6 = ht (B 0)) : CE (U := (Nat → Int32)) l yX7_ofRibbon wsX7_ofRibbon ({ frames := 4, cells := 0, slots := 0, locals := 94 }) D (tyL cI cZ cS cJ) [.ref m0, .int (nI r), .int 2] (List.flatten [mdO m0 m1 m2 m3 th sv kp ln ca lt fi sd hs, arC cI m1 1170 (enc B), arC cI m2 60 T, arC cI m3 8 h]) (fun u => True) (fun u => some (.int (ribS (B 0) r 2))) (fun u => List.flatten [mdO m0 m1 m2 m3 th sv kp ln ca lt fi sd hs, arC cI m1 1170 (enc B), arC cI m2 60 T, arC cI m3 8 u]) 0 0 := by
  refine CE_int (cc := cX7_ofRibbon) (maxL := 4) (rt := .int) (by decide) rfl (Nat.le_of_ble_eq_true rfl) (fun _ _ => rfl) ?_
  intro p e s m below meth c A ls Q X hK hP hD hS hA hl hend
  have X : CallFix p m c cX7_ofRibbon 4 s ([.ref m0, .int (nI r), .int 2] : List Value).toArray wsX7_ofRibbon RX7 := X
  obtain ⟨hx, hb, hml, hown, hts⟩ := id X
  have hl : lv_has ls 4 [(0, .ref m0), (1, .int (nI r)), (2, .int 2)] := hl
  have hinX7 : ∀ w ∈ u_ws RX7 TX7 12, w ∈ wsX7_ofRibbon := by decide +kernel
  refine lv_iload_n hx hb dX7_ofRibbon_0 rfl (lv_at hl 2 rfl) ?_
  refine lv_iconst (v := 3) hx hb dX7_ofRibbon_1 (by decide) ?_
  refine lv_icmp_ge (tgt := 19) hx hb dX7_ofRibbon_2 (by decide) (fun h => absurd h (by decide)) (fun _ => ?_)
  refine lv_aload_n hx hb dX7_ofRibbon_5 rfl (lv_at hl 0 rfl) ?_
  refine va_get (D := D) (ci := 7) (v := .ref m1) (C := RX7) (T := TX7) (N := 12) hx hb hts hinX7 hown hK hP 0 rfl rfl 1 (by decide) (hts (.fieldLink RX7 7 "RibbonBalloonsModel" "s" "[I") (by decide +kernel)) (fun _ h9 => h9) rfl dX7_ofRibbon_6 ?_
  refine lv_bipush (v := 49) hx hb dX7_ofRibbon_9 (by decide) ?_
  refine lv_iconst (v := 3) hx hb dX7_ofRibbon_11 (by decide) ?_
  refine lv_iload_n hx hb dX7_ofRibbon_12 rfl (lv_at hl 1 rfl) ?_
  refine lv_imul hx hb dX7_ofRibbon_13 ?_
  refine lv_eqi (y := nI (3 * r)) (pk_mul _ _) ?_
  refine lv_iadd hx hb dX7_ofRibbon_14 ?_
  refine lv_eqi (y := nI (49 + (3 * r))) (nI_add _ _) ?_
  refine lv_iload_n hx hb dX7_ofRibbon_15 rfl (lv_at hl 2 rfl) ?_
  refine lv_iadd hx hb dX7_ofRibbon_16 ?_
  refine lv_eqi (y := nI ((49 + (3 * r)) + 2)) (nI_add _ _) ?_
  refine r_iald hx hb hK hP 1 0 ((49 + (3 * r)) + 2) (f := enc B) rfl rfl (by omega) (by omega) dX7_ofRibbon_17 ?_
  refine hend (h) _ _ _ _ _ trivial ?_ hP hD hS dX7_ofRibbon_18
  exact enc_q0 B (w := 2) hr7 (by decide)

set_option maxHeartbeats 4000000 in
set_option maxRecDepth 100000 in
theorem c_X7_ofRibbon3 (l : Launch) (D : va_G) (cI cZ cS cJ : ClassId) (m0 : Nat) (m1 : Nat) (m2 : Nat) (m3 : Nat) (th : Int32) (sv : Int32) (kp : Int32) (ln : Int32) (ca : Int32) (lt : Int32) (fi : Int32) (sd : Int32) (hs : Int64) (B : Nat → Nat → Nat → Int32) (T : Nat → Int32) (h : Nat → Int32) (r : Nat) (hr7 : r < 7) (hG : GB (B 0)) (h6 : B 0 6 = ht (B 0)) : CE (U := (Nat → Int32)) l yX7_ofRibbon wsX7_ofRibbon ({ frames := 4, cells := 0, slots := 0, locals := 94 }) D (tyL cI cZ cS cJ) [.ref m0, .int (nI r), .int 3] (List.flatten [mdO m0 m1 m2 m3 th sv kp ln ca lt fi sd hs, arC cI m1 1170 (enc B), arC cI m2 60 T, arC cI m3 8 h]) (fun u => True) (fun u => some (.int (ribS (B 0) r 3))) (fun u => List.flatten [mdO m0 m1 m2 m3 th sv kp ln ca lt fi sd hs, arC cI m1 1170 (enc B), arC cI m2 60 T, arC cI m3 8 u]) 0 0 := by
  refine CE_int (cc := cX7_ofRibbon) (maxL := 4) (rt := .int) (by decide) rfl (Nat.le_of_ble_eq_true rfl) (fun _ _ => rfl) ?_
  intro p e s m below meth c A ls Q X hK hP hD hS hA hl hend
  have X : CallFix p m c cX7_ofRibbon 4 s ([.ref m0, .int (nI r), .int 3] : List Value).toArray wsX7_ofRibbon RX7 := X
  obtain ⟨hx, hb, hml, hown, hts⟩ := id X
  have hl : lv_has ls 4 [(0, .ref m0), (1, .int (nI r)), (2, .int 3)] := hl
  refine lv_iload_n hx hb dX7_ofRibbon_0 rfl (lv_at hl 2 rfl) ?_
  refine lv_iconst (v := 3) hx hb dX7_ofRibbon_1 (by decide) ?_
  refine lv_icmp_ge (tgt := 19) hx hb dX7_ofRibbon_2 (by decide) (fun _ => ?_) (fun h => absurd (by decide) h)
  refine lv_aload_n hx hb dX7_ofRibbon_19 rfl (lv_at hl 0 rfl) ?_
  refine lv_iconst (v := 0) hx hb dX7_ofRibbon_20 (by decide) ?_
  refine lv_eqi (y := nI (130 * 0)) (rfl) ?_
  refine kcallV (As := [.int (nI (130 * 0))]) (rest := []) (Wn := [mdO m0 m1 m2 m3 th sv kp ln ca lt fi sd hs, arC cI m1 1170 (enc B), arC cI m2 60 T, arC cI m3 8 (ht (B 0))]) X (c_X7_rises l D cI cZ cS cJ m0 m1 m2 m3 th sv kp ln ca lt fi sd hs B T h 0 (by omega) (GB_T hG)) (cwV 1 hts gX7_ofRibbon_X7_rises rfl rfl rfl (by decide +kernel) ⟨Nat.le_of_ble_eq_true rfl, Nat.le_of_ble_eq_true rfl⟩) hK hP hD hS hA [0, 1, 2, 3] rfl (by decide +kernel) rfl rfl rfl 0 7 rfl rfl rfl hl.1 rfl (Nat.le_of_ble_eq_true rfl) dX7_ofRibbon_21 ⟨Nat.le_of_ble_eq_true rfl, Nat.le_of_ble_eq_true rfl⟩ (fun H locs hP hD hS => ?_)
  refine lv_aload_n hx hb dX7_ofRibbon_24 rfl (lv_at hl 0 rfl) ?_
  refine lv_iconst (v := 0) hx hb dX7_ofRibbon_25 (by decide) ?_
  refine lv_eqi (y := nI (130 * 0)) (rfl) ?_
  refine lv_iload_n hx hb dX7_ofRibbon_26 rfl (lv_at hl 1 rfl) ?_
  refine kcallV (As := [.int (nI (130 * 0)), .int (nI r)]) (rest := []) (Wn := [mdO m0 m1 m2 m3 th sv kp ln ca lt fi sd hs, arC cI m1 1170 (enc B), arC cI m2 60 T, arC cI m3 8 (ht (B 0))]) X (c_X7_pull l D cI cZ cS cJ m0 m1 m2 m3 th sv kp ln ca lt fi sd hs B T (ht (B 0)) 0 r (by omega) (by omega) (GB_T hG)) (cwV 2 hts gX7_ofRibbon_X7_pull rfl rfl rfl (by decide +kernel) ⟨Nat.le_of_ble_eq_true rfl, Nat.le_of_ble_eq_true rfl⟩) hK hP hD hS hA [0, 1, 2, 3] rfl (by decide +kernel) rfl rfl rfl 0 7 rfl rfl rfl hl.1 rfl (Nat.le_of_ble_eq_true rfl) dX7_ofRibbon_27 ⟨Nat.le_of_ble_eq_true rfl, Nat.le_of_ble_eq_true rfl⟩ (fun H locs hP hD hS => ?_)
  refine lv_eqi (y := pulC (B 0) r) (by rw [← h6]; exact plR_C rfl rfl (by rw [h6]; exact ht_in hG (by omega)) (by rw [h6]; exact ht_in hG (by omega)) (hG.2 r hr7).2.1) ?_
  refine lv_istore_n (lv' := [(3, .int (pulC (B 0) r)), (0, .ref m0), (1, .int (nI r)), (2, .int 3)]) hx hb dX7_ofRibbon_30 rfl hl (by decide) rfl (fun ls hl => ?_)
  refine lv_iload_n hx hb dX7_ofRibbon_31 rfl (lv_at hl 3 rfl) ?_
  refine lv_iconst (v := 3) hx hb dX7_ofRibbon_32 (by decide) ?_
  refine lv_icmp_ne (tgt := 40) hx hb dX7_ofRibbon_33 (by decide) (fun h => absurd h (by decide)) (fun _ => ?_)
  refine lv_iload_n hx hb dX7_ofRibbon_36 rfl (lv_at hl 0 rfl) ?_
  refine lv_goto (tgt := 55) hx hb dX7_ofRibbon_37 (by decide) ?_
  refine hend (ht (B 0)) _ _ _ _ _ trivial ?_ hP hD hS dX7_ofRibbon_55
  exact rfl

set_option maxHeartbeats 4000000 in
set_option maxRecDepth 100000 in
theorem c_X7_ofRibbon4 (l : Launch) (D : va_G) (cI cZ cS cJ : ClassId) (m0 : Nat) (m1 : Nat) (m2 : Nat) (m3 : Nat) (th : Int32) (sv : Int32) (kp : Int32) (ln : Int32) (ca : Int32) (lt : Int32) (fi : Int32) (sd : Int32) (hs : Int64) (B : Nat → Nat → Nat → Int32) (T : Nat → Int32) (h : Nat → Int32) (r : Nat) (hr7 : r < 7) (hG : GB (B 0)) (h6 : B 0 6 = ht (B 0)) : CE (U := (Nat → Int32)) l yX7_ofRibbon wsX7_ofRibbon ({ frames := 4, cells := 0, slots := 0, locals := 94 }) D (tyL cI cZ cS cJ) [.ref m0, .int (nI r), .int 4] (List.flatten [mdO m0 m1 m2 m3 th sv kp ln ca lt fi sd hs, arC cI m1 1170 (enc B), arC cI m2 60 T, arC cI m3 8 h]) (fun u => True) (fun u => some (.int (ribS (B 0) r 4))) (fun u => List.flatten [mdO m0 m1 m2 m3 th sv kp ln ca lt fi sd hs, arC cI m1 1170 (enc B), arC cI m2 60 T, arC cI m3 8 u]) 0 0 := by
  refine CE_int (cc := cX7_ofRibbon) (maxL := 4) (rt := .int) (by decide) rfl (Nat.le_of_ble_eq_true rfl) (fun _ _ => rfl) ?_
  intro p e s m below meth c A ls Q X hK hP hD hS hA hl hend
  have X : CallFix p m c cX7_ofRibbon 4 s ([.ref m0, .int (nI r), .int 4] : List Value).toArray wsX7_ofRibbon RX7 := X
  obtain ⟨hx, hb, hml, hown, hts⟩ := id X
  have hl : lv_has ls 4 [(0, .ref m0), (1, .int (nI r)), (2, .int 4)] := hl
  refine lv_iload_n hx hb dX7_ofRibbon_0 rfl (lv_at hl 2 rfl) ?_
  refine lv_iconst (v := 3) hx hb dX7_ofRibbon_1 (by decide) ?_
  refine lv_icmp_ge (tgt := 19) hx hb dX7_ofRibbon_2 (by decide) (fun _ => ?_) (fun h => absurd (by decide) h)
  refine lv_aload_n hx hb dX7_ofRibbon_19 rfl (lv_at hl 0 rfl) ?_
  refine lv_iconst (v := 0) hx hb dX7_ofRibbon_20 (by decide) ?_
  refine lv_eqi (y := nI (130 * 0)) (rfl) ?_
  refine kcallV (As := [.int (nI (130 * 0))]) (rest := []) (Wn := [mdO m0 m1 m2 m3 th sv kp ln ca lt fi sd hs, arC cI m1 1170 (enc B), arC cI m2 60 T, arC cI m3 8 (ht (B 0))]) X (c_X7_rises l D cI cZ cS cJ m0 m1 m2 m3 th sv kp ln ca lt fi sd hs B T h 0 (by omega) (GB_T hG)) (cwV 1 hts gX7_ofRibbon_X7_rises rfl rfl rfl (by decide +kernel) ⟨Nat.le_of_ble_eq_true rfl, Nat.le_of_ble_eq_true rfl⟩) hK hP hD hS hA [0, 1, 2, 3] rfl (by decide +kernel) rfl rfl rfl 0 7 rfl rfl rfl hl.1 rfl (Nat.le_of_ble_eq_true rfl) dX7_ofRibbon_21 ⟨Nat.le_of_ble_eq_true rfl, Nat.le_of_ble_eq_true rfl⟩ (fun H locs hP hD hS => ?_)
  refine lv_aload_n hx hb dX7_ofRibbon_24 rfl (lv_at hl 0 rfl) ?_
  refine lv_iconst (v := 0) hx hb dX7_ofRibbon_25 (by decide) ?_
  refine lv_eqi (y := nI (130 * 0)) (rfl) ?_
  refine lv_iload_n hx hb dX7_ofRibbon_26 rfl (lv_at hl 1 rfl) ?_
  refine kcallV (As := [.int (nI (130 * 0)), .int (nI r)]) (rest := []) (Wn := [mdO m0 m1 m2 m3 th sv kp ln ca lt fi sd hs, arC cI m1 1170 (enc B), arC cI m2 60 T, arC cI m3 8 (ht (B 0))]) X (c_X7_pull l D cI cZ cS cJ m0 m1 m2 m3 th sv kp ln ca lt fi sd hs B T (ht (B 0)) 0 r (by omega) (by omega) (GB_T hG)) (cwV 2 hts gX7_ofRibbon_X7_pull rfl rfl rfl (by decide +kernel) ⟨Nat.le_of_ble_eq_true rfl, Nat.le_of_ble_eq_true rfl⟩) hK hP hD hS hA [0, 1, 2, 3] rfl (by decide +kernel) rfl rfl rfl 0 7 rfl rfl rfl hl.1 rfl (Nat.le_of_ble_eq_true rfl) dX7_ofRibbon_27 ⟨Nat.le_of_ble_eq_true rfl, Nat.le_of_ble_eq_true rfl⟩ (fun H locs hP hD hS => ?_)
  refine lv_eqi (y := pulC (B 0) r) (by rw [← h6]; exact plR_C rfl rfl (by rw [h6]; exact ht_in hG (by omega)) (by rw [h6]; exact ht_in hG (by omega)) (hG.2 r hr7).2.1) ?_
  refine lv_istore_n (lv' := [(3, .int (pulC (B 0) r)), (0, .ref m0), (1, .int (nI r)), (2, .int 4)]) hx hb dX7_ofRibbon_30 rfl hl (by decide) rfl (fun ls hl => ?_)
  refine lv_iload_n hx hb dX7_ofRibbon_31 rfl (lv_at hl 3 rfl) ?_
  refine lv_iconst (v := 3) hx hb dX7_ofRibbon_32 (by decide) ?_
  refine lv_icmp_ne (tgt := 40) hx hb dX7_ofRibbon_33 (by decide) (fun _ => ?_) (fun h => absurd h (by decide))
  refine lv_iload_n hx hb dX7_ofRibbon_40 rfl (lv_at hl 0 rfl) ?_
  refine lv_aload_n hx hb dX7_ofRibbon_41 rfl (lv_at hl 1 rfl) ?_
  refine lv_iconst (v := 0) hx hb dX7_ofRibbon_42 (by decide) ?_
  refine lv_eqi (y := nI (130 * 0)) (rfl) ?_
  refine lv_iload_n hx hb dX7_ofRibbon_43 rfl (lv_at hl 2 rfl) ?_
  refine kcallV (As := [.int (nI (130 * 0)), .int (nI r)]) (rest := [.int (pulC (B 0) r)]) (Wn := [mdO m0 m1 m2 m3 th sv kp ln ca lt fi sd hs, arC cI m1 1170 (enc B), arC cI m2 60 T, arC cI m3 8 (ht (B 0))]) X (c_X7_bears l D cI cZ cS cJ m0 m1 m2 m3 th sv kp ln ca lt fi sd hs B T (ht (B 0)) 0 r (by omega) (by omega)) (cwV 2 hts gX7_ofRibbon_X7_bears rfl rfl rfl (by decide +kernel) ⟨Nat.le_of_ble_eq_true rfl, Nat.le_of_ble_eq_true rfl⟩) hK hP hD hS hA [0, 1, 2, 3] rfl (by decide +kernel) rfl rfl rfl 0 7 rfl rfl rfl hl.1 rfl (Nat.le_of_ble_eq_true rfl) dX7_ofRibbon_44 ⟨Nat.le_of_ble_eq_true rfl, Nat.le_of_ble_eq_true rfl⟩ (fun H locs hP hD hS => ?_)
  refine lv_icmp_le (tgt := 54) hx hb dX7_ofRibbon_47 (by decide) (fun c47 => ?_) (fun c47 => ?_)
  · skip
    refine lv_iconst (v := 0) hx hb dX7_ofRibbon_54 (by decide) ?_
    refine hend (ht (B 0)) _ _ _ _ _ trivial ?_ hP hD hS dX7_ofRibbon_55
    first | exact (if_pos (lt_yes c47)).symm | exact (if_neg (lt_no c47)).symm
  · skip
    refine lv_iconst (v := 1) hx hb dX7_ofRibbon_50 (by decide) ?_
    refine lv_goto (tgt := 55) hx hb dX7_ofRibbon_51 (by decide) ?_
    refine hend (ht (B 0)) _ _ _ _ _ trivial ?_ hP hD hS dX7_ofRibbon_55
    first | exact (if_pos (lt_yes c47)).symm | exact (if_neg (lt_no c47)).symm

set_option maxHeartbeats 4000000 in
set_option maxRecDepth 100000 in
theorem c_X7_ofRibbon (l : Launch) (D : va_G) (cI cZ cS cJ : ClassId) (m0 : Nat) (m1 : Nat) (m2 : Nat) (m3 : Nat) (th : Int32) (sv : Int32) (kp : Int32) (ln : Int32) (ca : Int32) (lt : Int32) (fi : Int32) (sd : Int32) (hs : Int64) (B : Nat → Nat → Nat → Int32) (T : Nat → Int32) (h : Nat → Int32) (r : Nat) (w : Nat) (hr7 : r < 7) (hG : GB (B 0)) (h6 : B 0 6 = ht (B 0)) (hw : w < 5) : CE (U := (Nat → Int32)) l yX7_ofRibbon wsX7_ofRibbon ({ frames := 4, cells := 0, slots := 0, locals := 94 }) D (tyL cI cZ cS cJ) [.ref m0, .int (nI r), .int (nI w)] (List.flatten [mdO m0 m1 m2 m3 th sv kp ln ca lt fi sd hs, arC cI m1 1170 (enc B), arC cI m2 60 T, arC cI m3 8 h]) (fun u => True) (fun u => some (.int (ribS (B 0) r w))) (fun u => List.flatten [mdO m0 m1 m2 m3 th sv kp ln ca lt fi sd hs, arC cI m1 1170 (enc B), arC cI m2 60 T, arC cI m3 8 u]) 0 0 := by
  rcases (show w = 0 ∨ w = 1 ∨ w = 2 ∨ w = 3 ∨ w = 4 by omega) with rfl | rfl | rfl | rfl | rfl
  · exact c_X7_ofRibbon0 l D cI cZ cS cJ m0 m1 m2 m3 th sv kp ln ca lt fi sd hs B T h r hr7 hG h6
  · exact c_X7_ofRibbon1 l D cI cZ cS cJ m0 m1 m2 m3 th sv kp ln ca lt fi sd hs B T h r hr7 hG h6
  · exact c_X7_ofRibbon2 l D cI cZ cS cJ m0 m1 m2 m3 th sv kp ln ca lt fi sd hs B T h r hr7 hG h6
  · exact c_X7_ofRibbon3 l D cI cZ cS cJ m0 m1 m2 m3 th sv kp ln ca lt fi sd hs B T h r hr7 hG h6
  · exact c_X7_ofRibbon4 l D cI cZ cS cJ m0 m1 m2 m3 th sv kp ln ca lt fi sd hs B T h r hr7 hG h6

set_option maxHeartbeats 4000000 in
set_option maxRecDepth 100000 in
theorem c_X7_allGas (l : Launch) (D : va_G) (cI cZ cS cJ : ClassId) (m0 : Nat) (m1 : Nat) (m2 : Nat) (m3 : Nat) (th : Int32) (sv : Int32) (kp : Int32) (ln : Int32) (ca : Int32) (lt : Int32) (fi : Int32) (sd : Int32) (hs : Int64) (B : Nat → Nat → Nat → Int32) (T : Nat → Int32) (h : Nat → Int32)  : C0 l yX7_allGas wsX7_allGas ({ frames := 1, cells := 0, slots := 0, locals := 23 }) D (tyL cI cZ cS cJ) [.ref m0] (List.flatten [mdO m0 m1 m2 m3 th sv kp ln ca lt fi sd hs, arC cI m1 1170 (enc B), arC cI m2 60 T, arC cI m3 8 h]) (some (.int (sm (B 0 0) 8))) (List.flatten [mdO m0 m1 m2 m3 th sv kp ln ca lt fi sd hs, arC cI m1 1170 (enc B), arC cI m2 60 T, arC cI m3 8 h]) 0 0 := by
  refine C0_int (cc := cX7_allGas) (maxL := 3) (rt := .int) (by decide) rfl (Nat.le_of_ble_eq_true rfl) (rfl) ?_
  intro p e s m below meth c A ls Q X hK hP hD hS hA hl hend
  have X : CallFix p m c cX7_allGas 3 s ([.ref m0] : List Value).toArray wsX7_allGas RX7 := X
  obtain ⟨hx, hb, hml, hown, hts⟩ := id X
  have hl : lv_has ls 3 [(0, .ref m0)] := hl
  refine lv_iconst (v := 0) hx hb dX7_allGas_0 (by decide) ?_
  refine lv_istore_n (lv' := [(1, .int 0), (0, .ref m0)]) hx hb dX7_allGas_1 rfl hl (by decide) rfl (fun ls hl => ?_)
  refine lv_iconst (v := 0) hx hb dX7_allGas_2 (by decide) ?_
  refine lv_istore_n (lv' := [(2, .int 0), (1, .int 0), (0, .ref m0)]) hx hb dX7_allGas_3 rfl hl (by decide) rfl (fun ls hl => ?_)
  have lp_4 : ∀ (nn : Nat) (i : Nat), True → (i ≤ 8) → 8 - i < nn → ∀ (H : Heap) (locs : List Loc) (ls : Array Slot), va_P D vwCl (List.flatten [mdO m0 m1 m2 m3 th sv kp ln ca lt fi sd hs, arC cI m1 1170 (enc B), arC cI m2 60 T, arC cI m3 8 h]) H → va_D A (List.flatten [mdO m0 m1 m2 m3 th sv kp ln ca lt fi sd hs, arC cI m1 1170 (enc B), arC cI m2 60 T, arC cI m3 8 h]) → va_S A s.heap H locs → lv_has ls 3 [(0, .ref m0), (1, .int (sm (B 0 0) i)), (2, .int (nI i))] → W p l e ({ frames := 1, cells := 0, slots := 0, locals := 23 } : Room) s m ([.ref m0] : List Value).toArray below meth c H locs 0 0 Q (F0 m 4 ls []) := by
    intro nn
    induction nn with
    | zero => intro i _ hi hmz; exact absurd hmz (Nat.not_lt_zero _)
    | succ nn ih =>
      intro i _ hi hms H locs ls hP hD hS hl
      refine lv_iload_n hx hb dX7_allGas_4 rfl (lv_at hl 2 rfl) ?_
      refine lv_bipush (v := 8) hx hb dX7_allGas_5 (by decide) ?_
      refine n_ge (i := i) (j := 8) (tgt := 26) hx hb (by omega) (by omega) dX7_allGas_7 (by decide) (fun c7 => ?_) (fun c7 => ?_)
      · skip
        refine lv_iload_n hx hb dX7_allGas_26 rfl (lv_at hl 1 rfl) ?_
        refine hend _ _ _ _ _ ?_ hP hD hS dX7_allGas_27
        rw [show i = 8 by omega]
      · skip
        refine lv_iload_n hx hb dX7_allGas_10 rfl (lv_at hl 1 rfl) ?_
        refine lv_aload_n hx hb dX7_allGas_11 rfl (lv_at hl 0 rfl) ?_
        refine lv_iconst (v := 0) hx hb dX7_allGas_12 (by decide) ?_
        refine lv_eqi (y := nI (130 * 0)) (rfl) ?_
        refine lv_iload_n hx hb dX7_allGas_13 rfl (lv_at hl 2 rfl) ?_
        refine lv_iconst (v := 0) hx hb dX7_allGas_14 (by decide) ?_
        refine kcallV (As := [.int (nI (130 * 0)), .int (nI i), .int 0]) (rest := [.int (sm (B 0 0) i)]) (Wn := [mdO m0 m1 m2 m3 th sv kp ln ca lt fi sd hs, arC cI m1 1170 (enc B), arC cI m2 60 T, arC cI m3 8 h]) X (c_X7_of0 l D cI cZ cS cJ m0 m1 m2 m3 th sv kp ln ca lt fi sd hs B T h 0 i (by omega) (by omega)) (cwV 3 hts gX7_allGas_X7_of rfl rfl rfl (by decide +kernel) ⟨Nat.le_of_ble_eq_true rfl, Nat.le_of_ble_eq_true rfl⟩) hK hP hD hS hA [0, 1, 2, 3] rfl (by decide +kernel) rfl rfl rfl 0 7 rfl rfl rfl hl.1 rfl (Nat.le_of_ble_eq_true rfl) dX7_allGas_15 ⟨Nat.le_of_ble_eq_true rfl, Nat.le_of_ble_eq_true rfl⟩ (fun H locs hP hD hS => ?_)
        refine lv_iadd hx hb dX7_allGas_18 ?_
        refine lv_eqi (y := sm (B 0 0) (i + 1)) (rfl) ?_
        refine lv_istore_n (lv' := [(1, .int (sm (B 0 0) (i + 1))), (0, .ref m0), (2, .int (nI i))]) hx hb dX7_allGas_19 rfl hl (by decide) rfl (fun ls hl => ?_)
        refine lv_iinc (v := nI (i + 1)) (lv' := [(2, .int (nI (i + 1))), (1, .int (sm (B 0 0) (i + 1))), (0, .ref m0)]) hx hb dX7_allGas_20 hl (k := 2) rfl (nI_add _ _) (by decide) rfl (fun ls hl => ?_)
        refine lv_goto (tgt := 4) hx hb dX7_allGas_23 (by decide) ?_
        exact ih  (i + 1) trivial (by omega) (by omega) _ _ _ hP hD hS (lv_sub hl [2, 1, 0] rfl)
  exact lp_4 (8 - 0 + 1) 0 trivial (by omega) (Nat.lt_succ_self _) _ _ _ hP hD hS (lv_sub hl [2, 1, 0] rfl)

set_option maxHeartbeats 4000000 in
set_option maxRecDepth 100000 in
theorem c_X7_tied (l : Launch) (D : va_G) (cI cZ cS cJ : ClassId) (m0 : Nat) (m1 : Nat) (m2 : Nat) (m3 : Nat) (th : Int32) (sv : Int32) (kp : Int32) (ln : Int32) (ca : Int32) (lt : Int32) (fi : Int32) (sd : Int32) (hs : Int64) (B : Nat → Nat → Nat → Int32) (T : Nat → Int32) (h : Nat → Int32) (hT : ∀ r, r < 7 → B 0 3 r = 0 ∨ B 0 3 r = 1) : C0 l yX7_tied wsX7_tied ({ frames := 1, cells := 0, slots := 0, locals := 22 }) D (tyL cI cZ cS cJ) [.ref m0] (List.flatten [mdO m0 m1 m2 m3 th sv kp ln ca lt fi sd hs, arC cI m1 1170 (enc B), arC cI m2 60 T, arC cI m3 8 h]) (some (.int (sm (fun j => b1 (¬ B 0 3 j = 0)) 7))) (List.flatten [mdO m0 m1 m2 m3 th sv kp ln ca lt fi sd hs, arC cI m1 1170 (enc B), arC cI m2 60 T, arC cI m3 8 h]) 0 0 := by
  refine C0_int (cc := cX7_tied) (maxL := 3) (rt := .int) (by decide) rfl (Nat.le_of_ble_eq_true rfl) (rfl) ?_
  intro p e s m below meth c A ls Q X hK hP hD hS hA hl hend
  have X : CallFix p m c cX7_tied 3 s ([.ref m0] : List Value).toArray wsX7_tied RX7 := X
  obtain ⟨hx, hb, hml, hown, hts⟩ := id X
  have hl : lv_has ls 3 [(0, .ref m0)] := hl
  refine lv_iconst (v := 0) hx hb dX7_tied_0 (by decide) ?_
  refine lv_istore_n (lv' := [(1, .int 0), (0, .ref m0)]) hx hb dX7_tied_1 rfl hl (by decide) rfl (fun ls hl => ?_)
  refine lv_iconst (v := 0) hx hb dX7_tied_2 (by decide) ?_
  refine lv_istore_n (lv' := [(2, .int 0), (1, .int 0), (0, .ref m0)]) hx hb dX7_tied_3 rfl hl (by decide) rfl (fun ls hl => ?_)
  have lp_4 : ∀ (nn : Nat) (i : Nat), True → (i ≤ 7) → 7 - i < nn → ∀ (H : Heap) (locs : List Loc) (ls : Array Slot), va_P D vwCl (List.flatten [mdO m0 m1 m2 m3 th sv kp ln ca lt fi sd hs, arC cI m1 1170 (enc B), arC cI m2 60 T, arC cI m3 8 h]) H → va_D A (List.flatten [mdO m0 m1 m2 m3 th sv kp ln ca lt fi sd hs, arC cI m1 1170 (enc B), arC cI m2 60 T, arC cI m3 8 h]) → va_S A s.heap H locs → lv_has ls 3 [(0, .ref m0), (1, .int (sm (fun j => b1 (¬ B 0 3 j = 0)) i)), (2, .int (nI i))] → W p l e ({ frames := 1, cells := 0, slots := 0, locals := 22 } : Room) s m ([.ref m0] : List Value).toArray below meth c H locs 0 0 Q (F0 m 4 ls []) := by
    intro nn
    induction nn with
    | zero => intro i _ hi hmz; exact absurd hmz (Nat.not_lt_zero _)
    | succ nn ih =>
      intro i _ hi hms H locs ls hP hD hS hl
      refine lv_iload_n hx hb dX7_tied_4 rfl (lv_at hl 2 rfl) ?_
      refine lv_bipush (v := 7) hx hb dX7_tied_5 (by decide) ?_
      refine n_ge (i := i) (j := 7) (tgt := 33) hx hb (by omega) (by omega) dX7_tied_7 (by decide) (fun c7 => ?_) (fun c7 => ?_)
      · skip
        refine lv_iload_n hx hb dX7_tied_33 rfl (lv_at hl 1 rfl) ?_
        refine hend _ _ _ _ _ ?_ hP hD hS dX7_tied_34
        rw [show i = 7 by omega]
      · skip
        refine lv_iload_n hx hb dX7_tied_10 rfl (lv_at hl 1 rfl) ?_
        refine lv_aload_n hx hb dX7_tied_11 rfl (lv_at hl 0 rfl) ?_
        refine lv_iconst (v := 0) hx hb dX7_tied_12 (by decide) ?_
        refine lv_eqi (y := nI (130 * 0)) (rfl) ?_
        refine lv_iload_n hx hb dX7_tied_13 rfl (lv_at hl 2 rfl) ?_
        refine kcallV (As := [.int (nI (130 * 0)), .int (nI i)]) (rest := [.int (sm (fun j => b1 (¬ B 0 3 j = 0)) i)]) (Wn := [mdO m0 m1 m2 m3 th sv kp ln ca lt fi sd hs, arC cI m1 1170 (enc B), arC cI m2 60 T, arC cI m3 8 h]) X (c_X7_isTied l D cI cZ cS cJ m0 m1 m2 m3 th sv kp ln ca lt fi sd hs B T h 0 i (by omega) (by omega) hT) (cwV 2 hts gX7_tied_X7_isTied rfl rfl rfl (by decide +kernel) ⟨Nat.le_of_ble_eq_true rfl, Nat.le_of_ble_eq_true rfl⟩) hK hP hD hS hA [0, 1, 2, 3] rfl (by decide +kernel) rfl rfl rfl 0 7 rfl rfl rfl hl.1 rfl (Nat.le_of_ble_eq_true rfl) dX7_tied_14 ⟨Nat.le_of_ble_eq_true rfl, Nat.le_of_ble_eq_true rfl⟩ (fun H locs hP hD hS => ?_)
        refine lv_if_eq (tgt := 24) hx hb dX7_tied_17 (by decide) (fun c17 => ?_) (fun c17 => ?_)
        · skip
          refine lv_iconst (v := 0) hx hb dX7_tied_24 (by decide) ?_
          refine lv_iadd hx hb dX7_tied_25 ?_
          refine lv_eqi (y := sm (fun j => b1 (¬ B 0 3 j = 0)) (i + 1)) (by first | exact sm_b1p (p := fun j => ¬ B 0 3 j = 0) c17 | exact sm_b1z (p := fun j => ¬ B 0 3 j = 0) c17) ?_
          refine lv_istore_n (lv' := [(1, .int (sm (fun j => b1 (¬ B 0 3 j = 0)) (i + 1))), (0, .ref m0), (2, .int (nI i))]) hx hb dX7_tied_26 rfl hl (by decide) rfl (fun ls hl => ?_)
          refine lv_iinc (v := nI (i + 1)) (lv' := [(2, .int (nI (i + 1))), (1, .int (sm (fun j => b1 (¬ B 0 3 j = 0)) (i + 1))), (0, .ref m0)]) hx hb dX7_tied_27 hl (k := 2) rfl (nI_add _ _) (by decide) rfl (fun ls hl => ?_)
          refine lv_goto (tgt := 4) hx hb dX7_tied_30 (by decide) ?_
          exact ih  (i + 1) trivial (by omega) (by omega) _ _ _ hP hD hS (lv_sub hl [2, 1, 0] rfl)
        · skip
          refine lv_iconst (v := 1) hx hb dX7_tied_20 (by decide) ?_
          refine lv_goto (tgt := 25) hx hb dX7_tied_21 (by decide) ?_
          refine lv_iadd hx hb dX7_tied_25 ?_
          refine lv_eqi (y := sm (fun j => b1 (¬ B 0 3 j = 0)) (i + 1)) (by first | exact sm_b1p (p := fun j => ¬ B 0 3 j = 0) c17 | exact sm_b1z (p := fun j => ¬ B 0 3 j = 0) c17) ?_
          refine lv_istore_n (lv' := [(1, .int (sm (fun j => b1 (¬ B 0 3 j = 0)) (i + 1))), (0, .ref m0), (2, .int (nI i))]) hx hb dX7_tied_26 rfl hl (by decide) rfl (fun ls hl => ?_)
          refine lv_iinc (v := nI (i + 1)) (lv' := [(2, .int (nI (i + 1))), (1, .int (sm (fun j => b1 (¬ B 0 3 j = 0)) (i + 1))), (0, .ref m0)]) hx hb dX7_tied_27 hl (k := 2) rfl (nI_add _ _) (by decide) rfl (fun ls hl => ?_)
          refine lv_goto (tgt := 4) hx hb dX7_tied_30 (by decide) ?_
          exact ih  (i + 1) trivial (by omega) (by omega) _ _ _ hP hD hS (lv_sub hl [2, 1, 0] rfl)
  exact lp_4 (7 - 0 + 1) 0 trivial (by omega) (Nat.lt_succ_self _) _ _ _ hP hD hS (lv_sub hl [2, 1, 0] rfl)

set_option maxHeartbeats 4000000 in
set_option maxRecDepth 100000 in
theorem c_X7_highest (l : Launch) (D : va_G) (cI cZ cS cJ : ClassId) (m0 : Nat) (m1 : Nat) (m2 : Nat) (m3 : Nat) (th : Int32) (sv : Int32) (kp : Int32) (ln : Int32) (ca : Int32) (lt : Int32) (fi : Int32) (sd : Int32) (hs : Int64) (B : Nat → Nat → Nat → Int32) (T : Nat → Int32) (h : Nat → Int32) (hT : ∀ r, r < 7 → B 0 3 r = 0 ∨ B 0 3 r = 1) : CE (U := (Nat → Int32)) l yX7_highest wsX7_highest ({ frames := 4, cells := 0, slots := 0, locals := 90 }) D (tyL cI cZ cS cJ) [.ref m0] (List.flatten [mdO m0 m1 m2 m3 th sv kp ln ca lt fi sd hs, arC cI m1 1170 (enc B), arC cI m2 60 T, arC cI m3 8 h]) (fun u => True) (fun u => some (.int (nI (hiN (ht (B 0)) 7)))) (fun u => List.flatten [mdO m0 m1 m2 m3 th sv kp ln ca lt fi sd hs, arC cI m1 1170 (enc B), arC cI m2 60 T, arC cI m3 8 u]) 0 0 := by
  refine CE_int (cc := cX7_highest) (maxL := 3) (rt := .int) (by decide) rfl (Nat.le_of_ble_eq_true rfl) (fun _ _ => rfl) ?_
  intro p e s m below meth c A ls Q X hK hP hD hS hA hl hend
  have X : CallFix p m c cX7_highest 3 s ([.ref m0] : List Value).toArray wsX7_highest RX7 := X
  obtain ⟨hx, hb, hml, hown, hts⟩ := id X
  have hl : lv_has ls 3 [(0, .ref m0)] := hl
  have hinX7 : ∀ w ∈ u_ws RX7 TX7 12, w ∈ wsX7_highest := by decide +kernel
  refine lv_aload_n hx hb dX7_highest_0 rfl (lv_at hl 0 rfl) ?_
  refine lv_iconst (v := 0) hx hb dX7_highest_1 (by decide) ?_
  refine lv_eqi (y := nI (130 * 0)) (rfl) ?_
  refine kcallV (As := [.int (nI (130 * 0))]) (rest := []) (Wn := [mdO m0 m1 m2 m3 th sv kp ln ca lt fi sd hs, arC cI m1 1170 (enc B), arC cI m2 60 T, arC cI m3 8 (ht (B 0))]) X (c_X7_rises l D cI cZ cS cJ m0 m1 m2 m3 th sv kp ln ca lt fi sd hs B T h 0 (by omega) hT) (cwV 1 hts gX7_highest_X7_rises rfl rfl rfl (by decide +kernel) ⟨Nat.le_of_ble_eq_true rfl, Nat.le_of_ble_eq_true rfl⟩) hK hP hD hS hA [0, 1, 2, 3] rfl (by decide +kernel) rfl rfl rfl 0 7 rfl rfl rfl hl.1 rfl (Nat.le_of_ble_eq_true rfl) dX7_highest_2 ⟨Nat.le_of_ble_eq_true rfl, Nat.le_of_ble_eq_true rfl⟩ (fun H locs hP hD hS => ?_)
  refine lv_iconst (v := 0) hx hb dX7_highest_5 (by decide) ?_
  refine lv_istore_n (lv' := [(1, .int 0), (0, .ref m0)]) hx hb dX7_highest_6 rfl hl (by decide) rfl (fun ls hl => ?_)
  refine lv_iconst (v := 1) hx hb dX7_highest_7 (by decide) ?_
  refine lv_istore_n (lv' := [(2, .int 1), (1, .int 0), (0, .ref m0)]) hx hb dX7_highest_8 rfl hl (by decide) rfl (fun ls hl => ?_)
  have lp_9 : ∀ (nn : Nat) (i : Nat), True → (i ≤ 8) → (1 ≤ i) → 8 - i < nn → ∀ (H : Heap) (locs : List Loc) (ls : Array Slot), va_P D vwCl (List.flatten [mdO m0 m1 m2 m3 th sv kp ln ca lt fi sd hs, arC cI m1 1170 (enc B), arC cI m2 60 T, arC cI m3 8 (ht (B 0))]) H → va_D A (List.flatten [mdO m0 m1 m2 m3 th sv kp ln ca lt fi sd hs, arC cI m1 1170 (enc B), arC cI m2 60 T, arC cI m3 8 (ht (B 0))]) → va_S A s.heap H locs → lv_has ls 3 [(0, .ref m0), (1, .int (nI (hiN (ht (B 0)) (i - 1)))), (2, .int (nI i))] → W p l e ({ frames := 4, cells := 0, slots := 0, locals := 90 } : Room) s m ([.ref m0] : List Value).toArray below meth c H locs 0 0 Q (F0 m 9 ls []) := by
    intro nn
    induction nn with
    | zero => intro i _ hi hi1 hmz; exact absurd hmz (Nat.not_lt_zero _)
    | succ nn ih =>
      intro i _ hi hi1 hms H locs ls hP hD hS hl
      refine lv_iload_n hx hb dX7_highest_9 rfl (lv_at hl 2 rfl) ?_
      refine lv_bipush (v := 8) hx hb dX7_highest_10 (by decide) ?_
      refine n_ge (i := i) (j := 8) (tgt := 42) hx hb (by omega) (by omega) dX7_highest_12 (by decide) (fun c12 => ?_) (fun c12 => ?_)
      · skip
        refine lv_iload_n hx hb dX7_highest_42 rfl (lv_at hl 1 rfl) ?_
        refine hend (ht (B 0)) _ _ _ _ _ trivial ?_ hP hD hS dX7_highest_43
        rw [show i = 8 by omega]
      · skip
        have hle := hiN_le (ht (B 0)) (i - 1)
        refine lv_aload_n hx hb dX7_highest_15 rfl (lv_at hl 0 rfl) ?_
        refine va_get (D := D) (ci := 7) (v := .ref m3) (C := RX7) (T := TX7) (N := 12) hx hb hts hinX7 hown hK hP 0 rfl rfl 10 (by decide) (hts (.fieldLink RX7 16 "RibbonBalloonsModel" "heights" "[I") (by decide +kernel)) (fun _ h9 => h9) rfl dX7_highest_16 ?_
        refine lv_iload_n hx hb dX7_highest_19 rfl (lv_at hl 2 rfl) ?_
        refine r_iald hx hb hK hP 3 0 i (f := ht (B 0)) rfl rfl (by omega) (by omega) dX7_highest_20 ?_
        refine lv_aload_n hx hb dX7_highest_21 rfl (lv_at hl 0 rfl) ?_
        refine va_get (D := D) (ci := 7) (v := .ref m3) (C := RX7) (T := TX7) (N := 12) hx hb hts hinX7 hown hK hP 0 rfl rfl 10 (by decide) (hts (.fieldLink RX7 16 "RibbonBalloonsModel" "heights" "[I") (by decide +kernel)) (fun _ h9 => h9) rfl dX7_highest_22 ?_
        refine lv_iload_n hx hb dX7_highest_25 rfl (lv_at hl 1 rfl) ?_
        refine r_iald hx hb hK hP 3 0 (hiN (ht (B 0)) (i - 1)) (f := ht (B 0)) rfl rfl (by omega) (by omega) dX7_highest_26 ?_
        refine lv_icmp_le (tgt := 34) hx hb dX7_highest_27 (by decide) (fun c27 => ?_) (fun c27 => ?_)
        · skip
          refine lv_iload_n hx hb dX7_highest_34 rfl (lv_at hl 1 rfl) ?_
          refine lv_eqi (y := nI (hiN (ht (B 0)) (i + 1 - 1))) (by rw [Nat.add_sub_cancel, hiN_step (ht (B 0)) hi1]; first | rw [if_pos (lt_yes c27)] | rw [if_neg (lt_no c27)]) ?_
          refine lv_istore_n (lv' := [(1, .int (nI (hiN (ht (B 0)) (i + 1 - 1)))), (0, .ref m0), (2, .int (nI i))]) hx hb dX7_highest_35 rfl hl (by decide) rfl (fun ls hl => ?_)
          refine lv_iinc (v := nI (i + 1)) (lv' := [(2, .int (nI (i + 1))), (1, .int (nI (hiN (ht (B 0)) (i + 1 - 1)))), (0, .ref m0)]) hx hb dX7_highest_36 hl (k := 2) rfl (nI_add _ _) (by decide) rfl (fun ls hl => ?_)
          refine lv_goto (tgt := 9) hx hb dX7_highest_39 (by decide) ?_
          exact ih  (i + 1) trivial (by omega) (by omega) (by omega) _ _ _ hP hD hS (lv_sub hl [2, 1, 0] rfl)
        · skip
          refine lv_iload_n hx hb dX7_highest_30 rfl (lv_at hl 2 rfl) ?_
          refine lv_goto (tgt := 35) hx hb dX7_highest_31 (by decide) ?_
          refine lv_eqi (y := nI (hiN (ht (B 0)) (i + 1 - 1))) (by rw [Nat.add_sub_cancel, hiN_step (ht (B 0)) hi1]; first | rw [if_pos (lt_yes c27)] | rw [if_neg (lt_no c27)]) ?_
          refine lv_istore_n (lv' := [(1, .int (nI (hiN (ht (B 0)) (i + 1 - 1)))), (0, .ref m0), (2, .int (nI i))]) hx hb dX7_highest_35 rfl hl (by decide) rfl (fun ls hl => ?_)
          refine lv_iinc (v := nI (i + 1)) (lv' := [(2, .int (nI (i + 1))), (1, .int (nI (hiN (ht (B 0)) (i + 1 - 1)))), (0, .ref m0)]) hx hb dX7_highest_36 hl (k := 2) rfl (nI_add _ _) (by decide) rfl (fun ls hl => ?_)
          refine lv_goto (tgt := 9) hx hb dX7_highest_39 (by decide) ?_
          exact ih  (i + 1) trivial (by omega) (by omega) (by omega) _ _ _ hP hD hS (lv_sub hl [2, 1, 0] rfl)
  exact lp_9 (8 - 1 + 1) 1 trivial (by omega) (by omega) (Nat.lt_succ_self _) _ _ _ hP hD hS (lv_sub hl [2, 1, 0] rfl)

set_option maxHeartbeats 4000000 in
set_option maxRecDepth 100000 in
theorem c_X7_grounded (l : Launch) (D : va_G) (cI cZ cS cJ : ClassId) (m0 : Nat) (m1 : Nat) (m2 : Nat) (m3 : Nat) (th : Int32) (sv : Int32) (kp : Int32) (ln : Int32) (ca : Int32) (lt : Int32) (fi : Int32) (sd : Int32) (hs : Int64) (B : Nat → Nat → Nat → Int32) (T : Nat → Int32) (h : Nat → Int32) (hT : ∀ r, r < 7 → B 0 3 r = 0 ∨ B 0 3 r = 1) : CE (U := (Nat → Int32)) l yX7_grounded wsX7_grounded ({ frames := 4, cells := 0, slots := 0, locals := 90 }) D (tyL cI cZ cS cJ) [.ref m0] (List.flatten [mdO m0 m1 m2 m3 th sv kp ln ca lt fi sd hs, arC cI m1 1170 (enc B), arC cI m2 60 T, arC cI m3 8 h]) (fun u => True) (fun u => some (.int (sm (fun j => b1 (ht (B 0) j = 0)) 8))) (fun u => List.flatten [mdO m0 m1 m2 m3 th sv kp ln ca lt fi sd hs, arC cI m1 1170 (enc B), arC cI m2 60 T, arC cI m3 8 u]) 0 0 := by
  refine CE_int (cc := cX7_grounded) (maxL := 3) (rt := .int) (by decide) rfl (Nat.le_of_ble_eq_true rfl) (fun _ _ => rfl) ?_
  intro p e s m below meth c A ls Q X hK hP hD hS hA hl hend
  have X : CallFix p m c cX7_grounded 3 s ([.ref m0] : List Value).toArray wsX7_grounded RX7 := X
  obtain ⟨hx, hb, hml, hown, hts⟩ := id X
  have hl : lv_has ls 3 [(0, .ref m0)] := hl
  have hinX7 : ∀ w ∈ u_ws RX7 TX7 12, w ∈ wsX7_grounded := by decide +kernel
  refine lv_aload_n hx hb dX7_grounded_0 rfl (lv_at hl 0 rfl) ?_
  refine lv_iconst (v := 0) hx hb dX7_grounded_1 (by decide) ?_
  refine lv_eqi (y := nI (130 * 0)) (rfl) ?_
  refine kcallV (As := [.int (nI (130 * 0))]) (rest := []) (Wn := [mdO m0 m1 m2 m3 th sv kp ln ca lt fi sd hs, arC cI m1 1170 (enc B), arC cI m2 60 T, arC cI m3 8 (ht (B 0))]) X (c_X7_rises l D cI cZ cS cJ m0 m1 m2 m3 th sv kp ln ca lt fi sd hs B T h 0 (by omega) hT) (cwV 1 hts gX7_grounded_X7_rises rfl rfl rfl (by decide +kernel) ⟨Nat.le_of_ble_eq_true rfl, Nat.le_of_ble_eq_true rfl⟩) hK hP hD hS hA [0, 1, 2, 3] rfl (by decide +kernel) rfl rfl rfl 0 7 rfl rfl rfl hl.1 rfl (Nat.le_of_ble_eq_true rfl) dX7_grounded_2 ⟨Nat.le_of_ble_eq_true rfl, Nat.le_of_ble_eq_true rfl⟩ (fun H locs hP hD hS => ?_)
  refine lv_iconst (v := 0) hx hb dX7_grounded_5 (by decide) ?_
  refine lv_istore_n (lv' := [(1, .int 0), (0, .ref m0)]) hx hb dX7_grounded_6 rfl hl (by decide) rfl (fun ls hl => ?_)
  refine lv_iconst (v := 0) hx hb dX7_grounded_7 (by decide) ?_
  refine lv_istore_n (lv' := [(2, .int 0), (1, .int 0), (0, .ref m0)]) hx hb dX7_grounded_8 rfl hl (by decide) rfl (fun ls hl => ?_)
  have lp_9 : ∀ (nn : Nat) (i : Nat), True → (i ≤ 8) → 8 - i < nn → ∀ (H : Heap) (locs : List Loc) (ls : Array Slot), va_P D vwCl (List.flatten [mdO m0 m1 m2 m3 th sv kp ln ca lt fi sd hs, arC cI m1 1170 (enc B), arC cI m2 60 T, arC cI m3 8 (ht (B 0))]) H → va_D A (List.flatten [mdO m0 m1 m2 m3 th sv kp ln ca lt fi sd hs, arC cI m1 1170 (enc B), arC cI m2 60 T, arC cI m3 8 (ht (B 0))]) → va_S A s.heap H locs → lv_has ls 3 [(0, .ref m0), (1, .int (sm (fun j => b1 (ht (B 0) j = 0)) i)), (2, .int (nI i))] → W p l e ({ frames := 4, cells := 0, slots := 0, locals := 90 } : Room) s m ([.ref m0] : List Value).toArray below meth c H locs 0 0 Q (F0 m 9 ls []) := by
    intro nn
    induction nn with
    | zero => intro i _ hi hmz; exact absurd hmz (Nat.not_lt_zero _)
    | succ nn ih =>
      intro i _ hi hms H locs ls hP hD hS hl
      refine lv_iload_n hx hb dX7_grounded_9 rfl (lv_at hl 2 rfl) ?_
      refine lv_bipush (v := 8) hx hb dX7_grounded_10 (by decide) ?_
      refine n_ge (i := i) (j := 8) (tgt := 38) hx hb (by omega) (by omega) dX7_grounded_12 (by decide) (fun c12 => ?_) (fun c12 => ?_)
      · skip
        refine lv_iload_n hx hb dX7_grounded_38 rfl (lv_at hl 1 rfl) ?_
        refine hend (ht (B 0)) _ _ _ _ _ trivial ?_ hP hD hS dX7_grounded_39
        rw [show i = 8 by omega]
      · skip
        refine lv_iload_n hx hb dX7_grounded_15 rfl (lv_at hl 1 rfl) ?_
        refine lv_aload_n hx hb dX7_grounded_16 rfl (lv_at hl 0 rfl) ?_
        refine va_get (D := D) (ci := 7) (v := .ref m3) (C := RX7) (T := TX7) (N := 12) hx hb hts hinX7 hown hK hP 0 rfl rfl 10 (by decide) (hts (.fieldLink RX7 16 "RibbonBalloonsModel" "heights" "[I") (by decide +kernel)) (fun _ h9 => h9) rfl dX7_grounded_17 ?_
        refine lv_iload_n hx hb dX7_grounded_20 rfl (lv_at hl 2 rfl) ?_
        refine r_iald hx hb hK hP 3 0 i (f := ht (B 0)) rfl rfl (by omega) (by omega) dX7_grounded_21 ?_
        refine lv_if_ne (tgt := 29) hx hb dX7_grounded_22 (by decide) (fun c22 => ?_) (fun c22 => ?_)
        · skip
          refine lv_iconst (v := 0) hx hb dX7_grounded_29 (by decide) ?_
          refine lv_iadd hx hb dX7_grounded_30 ?_
          refine lv_eqi (y := sm (fun j => b1 (ht (B 0) j = 0)) (i + 1)) (by first | exact sm_p (p := fun j => ht (B 0) j = 0) c22 | exact sm_z (p := fun j => ht (B 0) j = 0) c22 | exact sm_z (p := fun j => ht (B 0) j = 0) (not_not_intro c22)) ?_
          refine lv_istore_n (lv' := [(1, .int (sm (fun j => b1 (ht (B 0) j = 0)) (i + 1))), (0, .ref m0), (2, .int (nI i))]) hx hb dX7_grounded_31 rfl hl (by decide) rfl (fun ls hl => ?_)
          refine lv_iinc (v := nI (i + 1)) (lv' := [(2, .int (nI (i + 1))), (1, .int (sm (fun j => b1 (ht (B 0) j = 0)) (i + 1))), (0, .ref m0)]) hx hb dX7_grounded_32 hl (k := 2) rfl (nI_add _ _) (by decide) rfl (fun ls hl => ?_)
          refine lv_goto (tgt := 9) hx hb dX7_grounded_35 (by decide) ?_
          exact ih  (i + 1) trivial (by omega) (by omega) _ _ _ hP hD hS (lv_sub hl [2, 1, 0] rfl)
        · skip
          refine lv_iconst (v := 1) hx hb dX7_grounded_25 (by decide) ?_
          refine lv_goto (tgt := 30) hx hb dX7_grounded_26 (by decide) ?_
          refine lv_iadd hx hb dX7_grounded_30 ?_
          refine lv_eqi (y := sm (fun j => b1 (ht (B 0) j = 0)) (i + 1)) (by first | exact sm_p (p := fun j => ht (B 0) j = 0) c22 | exact sm_z (p := fun j => ht (B 0) j = 0) c22 | exact sm_z (p := fun j => ht (B 0) j = 0) (not_not_intro c22)) ?_
          refine lv_istore_n (lv' := [(1, .int (sm (fun j => b1 (ht (B 0) j = 0)) (i + 1))), (0, .ref m0), (2, .int (nI i))]) hx hb dX7_grounded_31 rfl hl (by decide) rfl (fun ls hl => ?_)
          refine lv_iinc (v := nI (i + 1)) (lv' := [(2, .int (nI (i + 1))), (1, .int (sm (fun j => b1 (ht (B 0) j = 0)) (i + 1))), (0, .ref m0)]) hx hb dX7_grounded_32 hl (k := 2) rfl (nI_add _ _) (by decide) rfl (fun ls hl => ?_)
          refine lv_goto (tgt := 9) hx hb dX7_grounded_35 (by decide) ?_
          exact ih  (i + 1) trivial (by omega) (by omega) _ _ _ hP hD hS (lv_sub hl [2, 1, 0] rfl)
  exact lp_9 (8 - 0 + 1) 0 trivial (by omega) (Nat.lt_succ_self _) _ _ _ hP hD hS (lv_sub hl [2, 1, 0] rfl)

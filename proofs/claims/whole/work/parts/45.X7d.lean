set_option maxHeartbeats 4000000 in
set_option maxRecDepth 100000 in
theorem c_X7_noVent (l : Launch) (D : va_G) (cI cZ cS cJ : ClassId) (m0 : Nat) (m1 : Nat) (m2 : Nat) (m3 : Nat) (th : Int32) (sv : Int32) (kp : Int32) (ln : Int32) (ca : Int32) (lt : Int32) (fi : Int32) (sd : Int32) (hs : Int64) (B : Nat → Nat → Nat → Int32) (T : Nat → Int32) (h : Nat → Int32) (b : Nat) (x : Int32) (hb8 : b < 8) : C0 l yX7_noVent wsX7_noVent ({ frames := 1, cells := 0, slots := 0, locals := 23 }) D (tyL cI cZ cS cJ) [.ref m0, .int (nI b), .int x] (List.flatten [mdO m0 m1 m2 m3 th sv kp ln ca lt fi sd hs, arC cI m1 1170 (enc B), arC cI m2 60 T, arC cI m3 8 h]) (some (.int (wn1 (B 0) b x))) (List.flatten [mdO m0 m1 m2 m3 th sv kp ln ca lt fi sd hs, arC cI m1 1170 (enc B), arC cI m2 60 T, arC cI m3 8 h]) 0 0 := by
  refine C0_int (cc := cX7_noVent) (maxL := 3) (rt := .int) (by decide) rfl (Nat.le_of_ble_eq_true rfl) (rfl) ?_
  intro p e s m below meth c A ls Q X hK hP hD hS hA hl hend
  have X : CallFix p m c cX7_noVent 3 s ([.ref m0, .int (nI b), .int x] : List Value).toArray wsX7_noVent RX7 := X
  obtain ⟨hx, hb, hml, hown, hts⟩ := id X
  have hl : lv_has ls 3 [(0, .ref m0), (1, .int (nI b)), (2, .int x)] := hl
  refine lv_aload_n hx hb dX7_noVent_0 rfl (lv_at hl 0 rfl) ?_
  refine lv_iconst (v := 0) hx hb dX7_noVent_1 (by decide) ?_
  refine lv_eqi (y := nI (130 * 0)) (rfl) ?_
  refine lv_iload_n hx hb dX7_noVent_2 rfl (lv_at hl 1 rfl) ?_
  refine lv_iconst (v := 0) hx hb dX7_noVent_3 (by decide) ?_
  refine kcallV (As := [.int (nI (130 * 0)), .int (nI b), .int 0]) (rest := []) (Wn := [mdO m0 m1 m2 m3 th sv kp ln ca lt fi sd hs, arC cI m1 1170 (enc B), arC cI m2 60 T, arC cI m3 8 h]) X (c_X7_of0 l D cI cZ cS cJ m0 m1 m2 m3 th sv kp ln ca lt fi sd hs B T h 0 b (by omega) (by omega)) (cwV 3 hts gX7_noVent_X7_of rfl rfl rfl (by decide +kernel) ⟨Nat.le_of_ble_eq_true rfl, Nat.le_of_ble_eq_true rfl⟩) hK hP hD hS hA [0, 1, 2, 3] rfl (by decide +kernel) rfl rfl rfl 0 7 rfl rfl rfl hl.1 rfl (Nat.le_of_ble_eq_true rfl) dX7_noVent_4 ⟨Nat.le_of_ble_eq_true rfl, Nat.le_of_ble_eq_true rfl⟩ (fun H locs hP hD hS => ?_)
  refine lv_iload_n hx hb dX7_noVent_7 rfl (lv_at hl 2 rfl) ?_
  refine lv_icmp_ge (tgt := 15) hx hb dX7_noVent_8 (by decide) (fun c8 => ?_) (fun c8 => ?_)
  · skip
    refine lv_iconst (v := 0) hx hb dX7_noVent_15 (by decide) ?_
    refine hend _ _ _ _ _ ?_ hP hD hS dX7_noVent_16
    unfold wn1; first | rw [if_pos (lt_yes c8)] | rw [if_neg (lt_no c8)]
  · skip
    refine lv_iconst (v := 3) hx hb dX7_noVent_11 (by decide) ?_
    refine lv_goto (tgt := 16) hx hb dX7_noVent_12 (by decide) ?_
    refine hend _ _ _ _ _ ?_ hP hD hS dX7_noVent_16
    unfold wn1; first | rw [if_pos (lt_yes c8)] | rw [if_neg (lt_no c8)]

set_option maxHeartbeats 4000000 in
set_option maxRecDepth 100000 in
theorem c_X7_noDrop (l : Launch) (D : va_G) (cI cZ cS cJ : ClassId) (m0 : Nat) (m1 : Nat) (m2 : Nat) (m3 : Nat) (th : Int32) (sv : Int32) (kp : Int32) (ln : Int32) (ca : Int32) (lt : Int32) (fi : Int32) (sd : Int32) (hs : Int64) (B : Nat → Nat → Nat → Int32) (T : Nat → Int32) (h : Nat → Int32) (b : Nat) (hb8 : b < 8) : C0 l yX7_noDrop wsX7_noDrop ({ frames := 1, cells := 0, slots := 0, locals := 23 }) D (tyL cI cZ cS cJ) [.ref m0, .int (nI b)] (List.flatten [mdO m0 m1 m2 m3 th sv kp ln ca lt fi sd hs, arC cI m1 1170 (enc B), arC cI m2 60 T, arC cI m3 8 h]) (some (.int (wn2 (B 0) b))) (List.flatten [mdO m0 m1 m2 m3 th sv kp ln ca lt fi sd hs, arC cI m1 1170 (enc B), arC cI m2 60 T, arC cI m3 8 h]) 0 0 := by
  refine C0_int (cc := cX7_noDrop) (maxL := 2) (rt := .int) (by decide) rfl (Nat.le_of_ble_eq_true rfl) (rfl) ?_
  intro p e s m below meth c A ls Q X hK hP hD hS hA hl hend
  have X : CallFix p m c cX7_noDrop 2 s ([.ref m0, .int (nI b)] : List Value).toArray wsX7_noDrop RX7 := X
  obtain ⟨hx, hb, hml, hown, hts⟩ := id X
  have hl : lv_has ls 2 [(0, .ref m0), (1, .int (nI b))] := hl
  refine lv_aload_n hx hb dX7_noDrop_0 rfl (lv_at hl 0 rfl) ?_
  refine lv_iconst (v := 0) hx hb dX7_noDrop_1 (by decide) ?_
  refine lv_eqi (y := nI (130 * 0)) (rfl) ?_
  refine lv_iload_n hx hb dX7_noDrop_2 rfl (lv_at hl 1 rfl) ?_
  refine lv_iconst (v := 1) hx hb dX7_noDrop_3 (by decide) ?_
  refine kcallV (As := [.int (nI (130 * 0)), .int (nI b), .int 1]) (rest := []) (Wn := [mdO m0 m1 m2 m3 th sv kp ln ca lt fi sd hs, arC cI m1 1170 (enc B), arC cI m2 60 T, arC cI m3 8 h]) X (c_X7_of1 l D cI cZ cS cJ m0 m1 m2 m3 th sv kp ln ca lt fi sd hs B T h 0 b (by omega) (by omega)) (cwV 3 hts gX7_noDrop_X7_of rfl rfl rfl (by decide +kernel) ⟨Nat.le_of_ble_eq_true rfl, Nat.le_of_ble_eq_true rfl⟩) hK hP hD hS hA [0, 1, 2, 3] rfl (by decide +kernel) rfl rfl rfl 0 7 rfl rfl rfl hl.1 rfl (Nat.le_of_ble_eq_true rfl) dX7_noDrop_4 ⟨Nat.le_of_ble_eq_true rfl, Nat.le_of_ble_eq_true rfl⟩ (fun H locs hP hD hS => ?_)
  refine lv_if_ne (tgt := 14) hx hb dX7_noDrop_7 (by decide) (fun c7 => ?_) (fun c7 => ?_)
  · skip
    refine lv_iconst (v := 0) hx hb dX7_noDrop_14 (by decide) ?_
    refine hend _ _ _ _ _ ?_ hP hD hS dX7_noDrop_15
    unfold wn2; first | rw [if_pos c7] | rw [if_neg c7]
  · skip
    refine lv_iconst (v := 4) hx hb dX7_noDrop_10 (by decide) ?_
    refine lv_goto (tgt := 15) hx hb dX7_noDrop_11 (by decide) ?_
    refine hend _ _ _ _ _ ?_ hP hD hS dX7_noDrop_15
    unfold wn2; first | rw [if_pos c7] | rw [if_neg c7]

set_option maxHeartbeats 4000000 in
set_option maxRecDepth 100000 in
theorem c_X7_noCut (l : Launch) (D : va_G) (cI cZ cS cJ : ClassId) (m0 : Nat) (m1 : Nat) (m2 : Nat) (m3 : Nat) (th : Int32) (sv : Int32) (kp : Int32) (ln : Int32) (ca : Int32) (lt : Int32) (fi : Int32) (sd : Int32) (hs : Int64) (B : Nat → Nat → Nat → Int32) (T : Nat → Int32) (h : Nat → Int32) (r : Nat) (hr7 : r < 7) (hT : ∀ r, r < 7 → B 0 3 r = 0 ∨ B 0 3 r = 1) : C0 l yX7_noCut wsX7_noCut ({ frames := 1, cells := 0, slots := 0, locals := 22 }) D (tyL cI cZ cS cJ) [.ref m0, .int (nI r)] (List.flatten [mdO m0 m1 m2 m3 th sv kp ln ca lt fi sd hs, arC cI m1 1170 (enc B), arC cI m2 60 T, arC cI m3 8 h]) (some (.int (wn5 (B 0) r))) (List.flatten [mdO m0 m1 m2 m3 th sv kp ln ca lt fi sd hs, arC cI m1 1170 (enc B), arC cI m2 60 T, arC cI m3 8 h]) 0 0 := by
  refine C0_int (cc := cX7_noCut) (maxL := 2) (rt := .int) (by decide) rfl (Nat.le_of_ble_eq_true rfl) (rfl) ?_
  intro p e s m below meth c A ls Q X hK hP hD hS hA hl hend
  have X : CallFix p m c cX7_noCut 2 s ([.ref m0, .int (nI r)] : List Value).toArray wsX7_noCut RX7 := X
  obtain ⟨hx, hb, hml, hown, hts⟩ := id X
  have hl : lv_has ls 2 [(0, .ref m0), (1, .int (nI r))] := hl
  refine lv_aload_n hx hb dX7_noCut_0 rfl (lv_at hl 0 rfl) ?_
  refine lv_iconst (v := 0) hx hb dX7_noCut_1 (by decide) ?_
  refine lv_eqi (y := nI (130 * 0)) (rfl) ?_
  refine lv_iload_n hx hb dX7_noCut_2 rfl (lv_at hl 1 rfl) ?_
  refine kcallV (As := [.int (nI (130 * 0)), .int (nI r)]) (rest := []) (Wn := [mdO m0 m1 m2 m3 th sv kp ln ca lt fi sd hs, arC cI m1 1170 (enc B), arC cI m2 60 T, arC cI m3 8 h]) X (c_X7_isTied l D cI cZ cS cJ m0 m1 m2 m3 th sv kp ln ca lt fi sd hs B T h 0 r (by omega) (by omega) hT) (cwV 2 hts gX7_noCut_X7_isTied rfl rfl rfl (by decide +kernel) ⟨Nat.le_of_ble_eq_true rfl, Nat.le_of_ble_eq_true rfl⟩) hK hP hD hS hA [0, 1, 2, 3] rfl (by decide +kernel) rfl rfl rfl 0 7 rfl rfl rfl hl.1 rfl (Nat.le_of_ble_eq_true rfl) dX7_noCut_3 ⟨Nat.le_of_ble_eq_true rfl, Nat.le_of_ble_eq_true rfl⟩ (fun H locs hP hD hS => ?_)
  refine lv_if_eq (tgt := 13) hx hb dX7_noCut_6 (by decide) (fun c6 => ?_) (fun c6 => ?_)
  · skip
    refine lv_bipush (v := 9) hx hb dX7_noCut_13 (by decide) ?_
    refine hend _ _ _ _ _ ?_ hP hD hS dX7_noCut_15
    unfold wn5; first | rw [if_pos (Decidable.not_not.mp (b1_z c6))] | rw [if_neg (b1_t c6)]
  · skip
    refine lv_iconst (v := 0) hx hb dX7_noCut_9 (by decide) ?_
    refine lv_goto (tgt := 15) hx hb dX7_noCut_10 (by decide) ?_
    refine hend _ _ _ _ _ ?_ hP hD hS dX7_noCut_15
    unfold wn5; first | rw [if_pos (Decidable.not_not.mp (b1_z c6))] | rw [if_neg (b1_t c6)]

set_option maxHeartbeats 4000000 in
set_option maxRecDepth 100000 in
theorem c_X7_noFill (l : Launch) (D : va_G) (cI cZ cS cJ : ClassId) (m0 : Nat) (m1 : Nat) (m2 : Nat) (m3 : Nat) (th : Int32) (sv : Int32) (kp : Int32) (ln : Int32) (ca : Int32) (lt : Int32) (fi : Int32) (sd : Int32) (hs : Int64) (B : Nat → Nat → Nat → Int32) (T : Nat → Int32) (h : Nat → Int32) (b : Nat) (x : Int32) (hb8 : b < 8) (hT : ∀ r, r < 7 → B 0 3 r = 0 ∨ B 0 3 r = 1) : C0 l yX7_noFill wsX7_noFill ({ frames := 5, cells := 0, slots := 0, locals := 111 }) D (tyL cI cZ cS cJ) [.ref m0, .int (nI b), .int x] (List.flatten [mdO m0 m1 m2 m3 th sv kp ln ca lt fi sd hs, arC cI m1 1170 (enc B), arC cI m2 60 T, arC cI m3 8 h]) (some (.int (wn0 (mended (B 0)) b x))) (List.flatten [mdO m0 m1 m2 m3 th sv kp ln ca lt fi sd hs, arC cI m1 1170 (enc B), arC cI m2 60 T, arC cI m3 8 (if 200 < B 0 0 b + x then h else ht (B 0))]) 0 0 := by
  refine C0_int (cc := cX7_noFill) (maxL := 3) (rt := .int) (by decide) rfl (Nat.le_of_ble_eq_true rfl) (rfl) ?_
  intro p e s m below meth c A ls Q X hK hP hD hS hA hl hend
  have X : CallFix p m c cX7_noFill 3 s ([.ref m0, .int (nI b), .int x] : List Value).toArray wsX7_noFill RX7 := X
  obtain ⟨hx, hb, hml, hown, hts⟩ := id X
  have hl : lv_has ls 3 [(0, .ref m0), (1, .int (nI b)), (2, .int x)] := hl
  refine lv_aload_n hx hb dX7_noFill_0 rfl (lv_at hl 0 rfl) ?_
  refine lv_iconst (v := 0) hx hb dX7_noFill_1 (by decide) ?_
  refine lv_eqi (y := nI (130 * 0)) (rfl) ?_
  refine lv_iload_n hx hb dX7_noFill_2 rfl (lv_at hl 1 rfl) ?_
  refine lv_iconst (v := 0) hx hb dX7_noFill_3 (by decide) ?_
  refine kcallV (As := [.int (nI (130 * 0)), .int (nI b), .int 0]) (rest := []) (Wn := [mdO m0 m1 m2 m3 th sv kp ln ca lt fi sd hs, arC cI m1 1170 (enc B), arC cI m2 60 T, arC cI m3 8 h]) X (c_X7_of0 l D cI cZ cS cJ m0 m1 m2 m3 th sv kp ln ca lt fi sd hs B T h 0 b (by omega) (by omega)) (cwV 3 hts gX7_noFill_X7_of rfl rfl rfl (by decide +kernel) ⟨Nat.le_of_ble_eq_true rfl, Nat.le_of_ble_eq_true rfl⟩) hK hP hD hS hA [0, 1, 2, 3] rfl (by decide +kernel) rfl rfl rfl 0 7 rfl rfl rfl hl.1 rfl (Nat.le_of_ble_eq_true rfl) dX7_noFill_4 ⟨Nat.le_of_ble_eq_true rfl, Nat.le_of_ble_eq_true rfl⟩ (fun H locs hP hD hS => ?_)
  refine lv_iload_n hx hb dX7_noFill_7 rfl (lv_at hl 2 rfl) ?_
  refine lv_iadd hx hb dX7_noFill_8 ?_
  refine lv_sipush (v := 200) hx hb dX7_noFill_9 (by decide) ?_
  refine lv_icmp_le (tgt := 19) hx hb dX7_noFill_12 (by decide) (fun c12 => ?_) (fun c12 => ?_)
  · skip
    refine lv_aload_n hx hb dX7_noFill_19 rfl (lv_at hl 0 rfl) ?_
    refine lv_iload_n hx hb dX7_noFill_20 rfl (lv_at hl 1 rfl) ?_
    refine kcallV (As := [.int (nI b)]) (rest := []) (Wn := [mdO m0 m1 m2 m3 th sv kp ln ca lt fi sd hs, arC cI m1 1170 (enc B), arC cI m2 60 T, arC cI m3 8 (ht (B 0))]) X (c_X7_heightOf l D cI cZ cS cJ m0 m1 m2 m3 th sv kp ln ca lt fi sd hs B T h b (by omega) hT) (cwV 1 hts gX7_noFill_X7_heightOf rfl rfl rfl (by decide +kernel) ⟨Nat.le_of_ble_eq_true rfl, Nat.le_of_ble_eq_true rfl⟩) hK hP hD hS hA [0, 1, 2, 3] rfl (by decide +kernel) rfl rfl rfl 0 7 rfl rfl rfl hl.1 rfl (Nat.le_of_ble_eq_true rfl) dX7_noFill_21 ⟨Nat.le_of_ble_eq_true rfl, Nat.le_of_ble_eq_true rfl⟩ (fun H locs hP hD hS => ?_)
    refine lv_if_le (tgt := 31) hx hb dX7_noFill_24 (by decide) (fun c24 => ?_) (fun c24 => ?_)
    · skip
      refine lv_iconst (v := 0) hx hb dX7_noFill_31 (by decide) ?_
      obtain ⟨hP, hD⟩ := PD_cg hP hD 3 ((if 200 < B 0 0 b + x then h else ht (B 0))) rfl (fun j _ => by first | exact (congrFun (if_pos (lt_yes c12)) j).symm | exact (congrFun (if_neg (lt_no c12)) j).symm) (wn := List.flatten [mdO m0 m1 m2 m3 th sv kp ln ca lt fi sd hs, arC cI m1 1170 (enc B), arC cI m2 60 T, arC cI m3 8 (if 200 < B 0 0 b + x then h else ht (B 0))]) rfl
      refine hend _ _ _ _ _ ?_ hP hD hS dX7_noFill_32
      unfold wn0; first | exact (if_pos (lt_yes c12)).symm | exact ((if_neg (lt_no c12)).trans (if_pos (lt_yes c24))).symm | exact ((if_neg (lt_no c12)).trans (if_neg (lt_no c24))).symm
    · skip
      refine lv_iconst (v := 2) hx hb dX7_noFill_27 (by decide) ?_
      refine lv_goto (tgt := 32) hx hb dX7_noFill_28 (by decide) ?_
      obtain ⟨hP, hD⟩ := PD_cg hP hD 3 ((if 200 < B 0 0 b + x then h else ht (B 0))) rfl (fun j _ => by first | exact (congrFun (if_pos (lt_yes c12)) j).symm | exact (congrFun (if_neg (lt_no c12)) j).symm) (wn := List.flatten [mdO m0 m1 m2 m3 th sv kp ln ca lt fi sd hs, arC cI m1 1170 (enc B), arC cI m2 60 T, arC cI m3 8 (if 200 < B 0 0 b + x then h else ht (B 0))]) rfl
      refine hend _ _ _ _ _ ?_ hP hD hS dX7_noFill_32
      unfold wn0; first | exact (if_pos (lt_yes c12)).symm | exact ((if_neg (lt_no c12)).trans (if_pos (lt_yes c24))).symm | exact ((if_neg (lt_no c12)).trans (if_neg (lt_no c24))).symm
  · skip
    refine lv_iconst (v := 1) hx hb dX7_noFill_15 (by decide) ?_
    refine lv_goto (tgt := 32) hx hb dX7_noFill_16 (by decide) ?_
    obtain ⟨hP, hD⟩ := PD_cg hP hD 3 ((if 200 < B 0 0 b + x then h else ht (B 0))) rfl (fun j _ => by first | exact (congrFun (if_pos (lt_yes c12)) j).symm | exact (congrFun (if_neg (lt_no c12)) j).symm) (wn := List.flatten [mdO m0 m1 m2 m3 th sv kp ln ca lt fi sd hs, arC cI m1 1170 (enc B), arC cI m2 60 T, arC cI m3 8 (if 200 < B 0 0 b + x then h else ht (B 0))]) rfl
    refine hend _ _ _ _ _ ?_ hP hD hS dX7_noFill_32
    unfold wn0; first | exact (if_pos (lt_yes c12)).symm | exact ((if_neg (lt_no c12)).trans (if_pos (lt_yes c24))).symm | exact ((if_neg (lt_no c12)).trans (if_neg (lt_no c24))).symm

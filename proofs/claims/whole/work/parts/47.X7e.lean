set_option maxHeartbeats 4000000 in
set_option maxRecDepth 100000 in
theorem c_X7_fills (l : Launch) (D : va_G) (cI cZ cS cJ : ClassId) (m0 : Nat) (m1 : Nat) (m2 : Nat) (m3 : Nat) (th : Int32) (sv : Int32) (kp : Int32) (ln : Int32) (ca : Int32) (lt : Int32) (fi : Int32) (sd : Int32) (hs : Int64) (B : Nat → Nat → Nat → Int32) (T : Nat → Int32) (h : Nat → Int32) (b : Nat) (x : Int32) (hb8 : b < 8) : C0 l yX7_fills wsX7_fills ({ frames := 1, cells := 0, slots := 0, locals := 24 }) D (tyL cI cZ cS cJ) [.ref m0, .int (nI b), .int x] (List.flatten [mdO m0 m1 m2 m3 th sv kp ln ca lt fi sd hs, arC cI m1 1170 (enc B), arC cI m2 60 T, arC cI m3 8 h]) (some (.int (B 0 0 b + x))) (List.flatten [mdO m0 m1 m2 m3 th sv kp ln ca lt fi sd hs, arC cI m1 1170 (enc (uA B 0 (u2 (u2 (B 0) 0 b (B 0 0 b + x)) 12 1 ((u2 (B 0) 0 b (B 0 0 b + x)) 12 1 + x)))), arC cI m2 60 T, arC cI m3 8 h]) 0 0 := by
  refine C0_int (cc := cX7_fills) (maxL := 3) (rt := .int) (by decide) rfl (Nat.le_of_ble_eq_true rfl) (rfl) ?_
  intro p e s m below meth c A ls Q X hK hP hD hS hA hl hend
  have X : CallFix p m c cX7_fills 3 s ([.ref m0, .int (nI b), .int x] : List Value).toArray wsX7_fills RX7 := X
  obtain ⟨hx, hb, hml, hown, hts⟩ := id X
  have hl : lv_has ls 3 [(0, .ref m0), (1, .int (nI b)), (2, .int x)] := hl
  have hinX7 : ∀ w ∈ u_ws RX7 TX7 12, w ∈ wsX7_fills := by decide +kernel
  refine lv_aload_n hx hb dX7_fills_0 rfl (lv_at hl 0 rfl) ?_
  refine lv_iconst (v := 0) hx hb dX7_fills_1 (by decide) ?_
  refine lv_eqi (y := nI (130 * 0)) (rfl) ?_
  refine lv_iload_n hx hb dX7_fills_2 rfl (lv_at hl 1 rfl) ?_
  refine lv_iconst (v := 0) hx hb dX7_fills_3 (by decide) ?_
  refine lv_iload_n hx hb dX7_fills_4 rfl (lv_at hl 2 rfl) ?_
  refine kcallV (As := [.int (nI (130 * 0)), .int (nI b), .int 0, .int x]) (rest := []) (Wn := [mdO m0 m1 m2 m3 th sv kp ln ca lt fi sd hs, arC cI m1 1170 (enc (uA B 0 (u2 (B 0) 0 b ((B 0 0 b) + x)))), arC cI m2 60 T, arC cI m3 8 h]) X (c_X7_adds0 l D cI cZ cS cJ m0 m1 m2 m3 th sv kp ln ca lt fi sd hs B T h 0 b x (by omega) (by omega)) (cwV 4 hts gX7_fills_X7_adds rfl rfl rfl (by decide +kernel) ⟨Nat.le_of_ble_eq_true rfl, Nat.le_of_ble_eq_true rfl⟩) hK hP hD hS hA [0, 1, 2, 3] rfl (by decide +kernel) rfl rfl rfl 0 7 rfl rfl rfl hl.1 rfl (Nat.le_of_ble_eq_true rfl) dX7_fills_5 ⟨Nat.le_of_ble_eq_true rfl, Nat.le_of_ble_eq_true rfl⟩ (fun H locs hP hD hS => ?_)
  refine lv_aload_n hx hb dX7_fills_8 rfl (lv_at hl 0 rfl) ?_
  refine va_get (D := D) (ci := 7) (v := .ref m1) (C := RX7) (T := TX7) (N := 12) hx hb hts hinX7 hown hK hP 0 rfl rfl 1 (by decide) (hts (.fieldLink RX7 7 "RibbonBalloonsModel" "s" "[I") (by decide +kernel)) (fun _ h9 => h9) rfl dX7_fills_9 ?_
  refine lv_iconst (v := 1) hx hb dX7_fills_12 (by decide) ?_
  refine lv_dup2_11 hx hb dX7_fills_13 rfl rfl ?_
  refine r_iald hx hb hK hP 1 0 1 (f := enc (uA B 0 (u2 (B 0) 0 b ((B 0 0 b) + x)))) rfl rfl (by omega) (by omega) dX7_fills_14 ?_
  refine lv_iload_n hx hb dX7_fills_15 rfl (lv_at hl 2 rfl) ?_
  refine lv_iadd hx hb dX7_fills_16 ?_
  refine r_iast hx hb hK hP hD hS 1 0 1 (f := enc (uA B 0 (u2 (B 0) 0 b ((B 0 0 b) + x)))) (x := ((enc (uA B 0 (u2 (B 0) 0 b ((B 0 0 b) + x)))) 1) + x) (wn := List.flatten [mdO m0 m1 m2 m3 th sv kp ln ca lt fi sd hs, arC cI m1 1170 (upd (enc (uA B 0 (u2 (B 0) 0 b ((B 0 0 b) + x)))) 1 (((enc (uA B 0 (u2 (B 0) 0 b ((B 0 0 b) + x)))) 1) + x)), arC cI m2 60 T, arC cI m3 8 h]) rfl rfl (by omega) (by omega) rfl dX7_fills_17 (fun H locs hP hD hS => ?_)
  obtain ⟨hP, hD⟩ := PD_cg hP hD 1 (enc (uA B 0 (u2 (u2 (B 0) 0 b (B 0 0 b + x)) 12 1 ((u2 (B 0) 0 b (B 0 0 b + x)) 12 1 + x)))) rfl (fun j _ => enc_s0 B (u2 (B 0) 0 b (B 0 0 b + x)) (by decide) (fun e => by rw [e]) j) (wn := List.flatten [mdO m0 m1 m2 m3 th sv kp ln ca lt fi sd hs, arC cI m1 1170 (enc (uA B 0 (u2 (u2 (B 0) 0 b (B 0 0 b + x)) 12 1 ((u2 (B 0) 0 b (B 0 0 b + x)) 12 1 + x)))), arC cI m2 60 T, arC cI m3 8 h]) rfl
  refine lv_aload_n hx hb dX7_fills_18 rfl (lv_at hl 0 rfl) ?_
  refine lv_iconst (v := 0) hx hb dX7_fills_19 (by decide) ?_
  refine lv_eqi (y := nI (130 * 0)) (rfl) ?_
  refine lv_iload_n hx hb dX7_fills_20 rfl (lv_at hl 1 rfl) ?_
  refine lv_iconst (v := 0) hx hb dX7_fills_21 (by decide) ?_
  refine kcallV (As := [.int (nI (130 * 0)), .int (nI b), .int 0]) (rest := []) (Wn := [mdO m0 m1 m2 m3 th sv kp ln ca lt fi sd hs, arC cI m1 1170 (enc (uA B 0 (u2 (u2 (B 0) 0 b (B 0 0 b + x)) 12 1 ((u2 (B 0) 0 b (B 0 0 b + x)) 12 1 + x)))), arC cI m2 60 T, arC cI m3 8 h]) X (c_X7_of0 l D cI cZ cS cJ m0 m1 m2 m3 th sv kp ln ca lt fi sd hs (uA B 0 (u2 (u2 (B 0) 0 b (B 0 0 b + x)) 12 1 ((u2 (B 0) 0 b (B 0 0 b + x)) 12 1 + x))) T h 0 b (by omega) (by omega)) (cwV 3 hts gX7_fills_X7_of rfl rfl rfl (by decide +kernel) ⟨Nat.le_of_ble_eq_true rfl, Nat.le_of_ble_eq_true rfl⟩) hK hP hD hS hA [0, 1, 2, 3] rfl (by decide +kernel) rfl rfl rfl 0 7 rfl rfl rfl hl.1 rfl (Nat.le_of_ble_eq_true rfl) dX7_fills_22 ⟨Nat.le_of_ble_eq_true rfl, Nat.le_of_ble_eq_true rfl⟩ (fun H locs hP hD hS => ?_)
  refine hend _ _ _ _ _ ?_ hP hD hS dX7_fills_25
  exact upd_s _ _ _

set_option maxHeartbeats 4000000 in
set_option maxRecDepth 100000 in
theorem c_X7_vents (l : Launch) (D : va_G) (cI cZ cS cJ : ClassId) (m0 : Nat) (m1 : Nat) (m2 : Nat) (m3 : Nat) (th : Int32) (sv : Int32) (kp : Int32) (ln : Int32) (ca : Int32) (lt : Int32) (fi : Int32) (sd : Int32) (hs : Int64) (B : Nat → Nat → Nat → Int32) (T : Nat → Int32) (h : Nat → Int32) (b : Nat) (x : Int32) (hb8 : b < 8) (hT : ∀ r, r < 7 → B 0 3 r = 0 ∨ B 0 3 r = 1) : C0 l yX7_vents wsX7_vents ({ frames := 5, cells := 0, slots := 0, locals := 111 }) D (tyL cI cZ cS cJ) [.ref m0, .int (nI b), .int x] (List.flatten [mdO m0 m1 m2 m3 th sv kp ln ca lt fi sd hs, arC cI m1 1170 (enc B), arC cI m2 60 T, arC cI m3 8 h]) (some (.int (ht (u2 (u2 (B 0) 0 b (B 0 0 b + -x)) 12 3 ((u2 (B 0) 0 b (B 0 0 b + -x)) 12 3 + x)) b))) (List.flatten [mdO m0 m1 m2 m3 th sv kp ln ca lt fi sd hs, arC cI m1 1170 (enc (uA B 0 (u2 (u2 (B 0) 0 b (B 0 0 b + -x)) 12 3 ((u2 (B 0) 0 b (B 0 0 b + -x)) 12 3 + x)))), arC cI m2 60 T, arC cI m3 8 (ht (u2 (u2 (B 0) 0 b (B 0 0 b + -x)) 12 3 ((u2 (B 0) 0 b (B 0 0 b + -x)) 12 3 + x)))]) 0 0 := by
  refine C0_int (cc := cX7_vents) (maxL := 3) (rt := .int) (by decide) rfl (Nat.le_of_ble_eq_true rfl) (rfl) ?_
  intro p e s m below meth c A ls Q X hK hP hD hS hA hl hend
  have X : CallFix p m c cX7_vents 3 s ([.ref m0, .int (nI b), .int x] : List Value).toArray wsX7_vents RX7 := X
  obtain ⟨hx, hb, hml, hown, hts⟩ := id X
  have hl : lv_has ls 3 [(0, .ref m0), (1, .int (nI b)), (2, .int x)] := hl
  have hinX7 : ∀ w ∈ u_ws RX7 TX7 12, w ∈ wsX7_vents := by decide +kernel
  refine lv_aload_n hx hb dX7_vents_0 rfl (lv_at hl 0 rfl) ?_
  refine lv_iconst (v := 0) hx hb dX7_vents_1 (by decide) ?_
  refine lv_eqi (y := nI (130 * 0)) (rfl) ?_
  refine lv_iload_n hx hb dX7_vents_2 rfl (lv_at hl 1 rfl) ?_
  refine lv_iconst (v := 0) hx hb dX7_vents_3 (by decide) ?_
  refine lv_iload_n hx hb dX7_vents_4 rfl (lv_at hl 2 rfl) ?_
  refine lv_ineg hx hb dX7_vents_5 ?_
  refine kcallV (As := [.int (nI (130 * 0)), .int (nI b), .int 0, .int (-x)]) (rest := []) (Wn := [mdO m0 m1 m2 m3 th sv kp ln ca lt fi sd hs, arC cI m1 1170 (enc (uA B 0 (u2 (B 0) 0 b ((B 0 0 b) + (-x))))), arC cI m2 60 T, arC cI m3 8 h]) X (c_X7_adds0 l D cI cZ cS cJ m0 m1 m2 m3 th sv kp ln ca lt fi sd hs B T h 0 b (-x) (by omega) (by omega)) (cwV 4 hts gX7_vents_X7_adds rfl rfl rfl (by decide +kernel) ⟨Nat.le_of_ble_eq_true rfl, Nat.le_of_ble_eq_true rfl⟩) hK hP hD hS hA [0, 1, 2, 3] rfl (by decide +kernel) rfl rfl rfl 0 7 rfl rfl rfl hl.1 rfl (Nat.le_of_ble_eq_true rfl) dX7_vents_6 ⟨Nat.le_of_ble_eq_true rfl, Nat.le_of_ble_eq_true rfl⟩ (fun H locs hP hD hS => ?_)
  refine lv_aload_n hx hb dX7_vents_9 rfl (lv_at hl 0 rfl) ?_
  refine va_get (D := D) (ci := 7) (v := .ref m1) (C := RX7) (T := TX7) (N := 12) hx hb hts hinX7 hown hK hP 0 rfl rfl 1 (by decide) (hts (.fieldLink RX7 7 "RibbonBalloonsModel" "s" "[I") (by decide +kernel)) (fun _ h9 => h9) rfl dX7_vents_10 ?_
  refine lv_iconst (v := 3) hx hb dX7_vents_13 (by decide) ?_
  refine lv_dup2_11 hx hb dX7_vents_14 rfl rfl ?_
  refine r_iald hx hb hK hP 1 0 3 (f := enc (uA B 0 (u2 (B 0) 0 b ((B 0 0 b) + (-x))))) rfl rfl (by omega) (by omega) dX7_vents_15 ?_
  refine lv_iload_n hx hb dX7_vents_16 rfl (lv_at hl 2 rfl) ?_
  refine lv_iadd hx hb dX7_vents_17 ?_
  refine r_iast hx hb hK hP hD hS 1 0 3 (f := enc (uA B 0 (u2 (B 0) 0 b ((B 0 0 b) + (-x))))) (x := ((enc (uA B 0 (u2 (B 0) 0 b ((B 0 0 b) + (-x))))) 3) + x) (wn := List.flatten [mdO m0 m1 m2 m3 th sv kp ln ca lt fi sd hs, arC cI m1 1170 (upd (enc (uA B 0 (u2 (B 0) 0 b ((B 0 0 b) + (-x))))) 3 (((enc (uA B 0 (u2 (B 0) 0 b ((B 0 0 b) + (-x))))) 3) + x)), arC cI m2 60 T, arC cI m3 8 h]) rfl rfl (by omega) (by omega) rfl dX7_vents_18 (fun H locs hP hD hS => ?_)
  obtain ⟨hP, hD⟩ := PD_cg hP hD 1 (enc (uA B 0 (u2 (u2 (B 0) 0 b (B 0 0 b + -x)) 12 3 ((u2 (B 0) 0 b (B 0 0 b + -x)) 12 3 + x)))) rfl (fun j _ => enc_s0 B (u2 (B 0) 0 b (B 0 0 b + -x)) (by decide) (fun e => by rw [e]) j) (wn := List.flatten [mdO m0 m1 m2 m3 th sv kp ln ca lt fi sd hs, arC cI m1 1170 (enc (uA B 0 (u2 (u2 (B 0) 0 b (B 0 0 b + -x)) 12 3 ((u2 (B 0) 0 b (B 0 0 b + -x)) 12 3 + x)))), arC cI m2 60 T, arC cI m3 8 h]) rfl
  refine lv_aload_n hx hb dX7_vents_19 rfl (lv_at hl 0 rfl) ?_
  refine lv_iload_n hx hb dX7_vents_20 rfl (lv_at hl 1 rfl) ?_
  refine kcallV (As := [.int (nI b)]) (rest := []) (Wn := [mdO m0 m1 m2 m3 th sv kp ln ca lt fi sd hs, arC cI m1 1170 (enc (uA B 0 (u2 (u2 (B 0) 0 b (B 0 0 b + -x)) 12 3 ((u2 (B 0) 0 b (B 0 0 b + -x)) 12 3 + x)))), arC cI m2 60 T, arC cI m3 8 (ht ((uA B 0 (u2 (u2 (B 0) 0 b (B 0 0 b + -x)) 12 3 ((u2 (B 0) 0 b (B 0 0 b + -x)) 12 3 + x))) 0))]) X (c_X7_heightOf l D cI cZ cS cJ m0 m1 m2 m3 th sv kp ln ca lt fi sd hs (uA B 0 (u2 (u2 (B 0) 0 b (B 0 0 b + -x)) 12 3 ((u2 (B 0) 0 b (B 0 0 b + -x)) 12 3 + x))) T h b (by omega) (fun r h => hT r h)) (cwV 1 hts gX7_vents_X7_heightOf rfl rfl rfl (by decide +kernel) ⟨Nat.le_of_ble_eq_true rfl, Nat.le_of_ble_eq_true rfl⟩) hK hP hD hS hA [0, 1, 2, 3] rfl (by decide +kernel) rfl rfl rfl 0 7 rfl rfl rfl hl.1 rfl (Nat.le_of_ble_eq_true rfl) dX7_vents_21 ⟨Nat.le_of_ble_eq_true rfl, Nat.le_of_ble_eq_true rfl⟩ (fun H locs hP hD hS => ?_)
  obtain ⟨hP, hD⟩ := PD_cg hP hD 3 (ht (u2 (u2 (B 0) 0 b (B 0 0 b + -x)) 12 3 ((u2 (B 0) 0 b (B 0 0 b + -x)) 12 3 + x))) rfl (fun _ _ => rfl) (wn := List.flatten [mdO m0 m1 m2 m3 th sv kp ln ca lt fi sd hs, arC cI m1 1170 (enc (uA B 0 (u2 (u2 (B 0) 0 b (B 0 0 b + -x)) 12 3 ((u2 (B 0) 0 b (B 0 0 b + -x)) 12 3 + x)))), arC cI m2 60 T, arC cI m3 8 (ht (u2 (u2 (B 0) 0 b (B 0 0 b + -x)) 12 3 ((u2 (B 0) 0 b (B 0 0 b + -x)) 12 3 + x)))]) rfl
  refine hend _ _ _ _ _ ?_ hP hD hS dX7_vents_24
  exact rfl

set_option maxHeartbeats 4000000 in
set_option maxRecDepth 100000 in
theorem c_X7_drops (l : Launch) (D : va_G) (cI cZ cS cJ : ClassId) (m0 : Nat) (m1 : Nat) (m2 : Nat) (m3 : Nat) (th : Int32) (sv : Int32) (kp : Int32) (ln : Int32) (ca : Int32) (lt : Int32) (fi : Int32) (sd : Int32) (hs : Int64) (B : Nat → Nat → Nat → Int32) (T : Nat → Int32) (h : Nat → Int32) (b : Nat) (hb8 : b < 8) (hT : ∀ r, r < 7 → B 0 3 r = 0 ∨ B 0 3 r = 1) : C0 l yX7_drops wsX7_drops ({ frames := 5, cells := 0, slots := 0, locals := 111 }) D (tyL cI cZ cS cJ) [.ref m0, .int (nI b)] (List.flatten [mdO m0 m1 m2 m3 th sv kp ln ca lt fi sd hs, arC cI m1 1170 (enc B), arC cI m2 60 T, arC cI m3 8 h]) (some (.int (ht (u2 (u2 (B 0) 1 b (B 0 1 b + (-1))) 12 5 ((u2 (B 0) 1 b (B 0 1 b + (-1))) 12 5 + 1)) b))) (List.flatten [mdO m0 m1 m2 m3 th sv kp ln ca lt fi sd hs, arC cI m1 1170 (enc (uA B 0 (u2 (u2 (B 0) 1 b (B 0 1 b + (-1))) 12 5 ((u2 (B 0) 1 b (B 0 1 b + (-1))) 12 5 + 1)))), arC cI m2 60 T, arC cI m3 8 (ht (u2 (u2 (B 0) 1 b (B 0 1 b + (-1))) 12 5 ((u2 (B 0) 1 b (B 0 1 b + (-1))) 12 5 + 1)))]) 0 0 := by
  refine C0_int (cc := cX7_drops) (maxL := 2) (rt := .int) (by decide) rfl (Nat.le_of_ble_eq_true rfl) (rfl) ?_
  intro p e s m below meth c A ls Q X hK hP hD hS hA hl hend
  have X : CallFix p m c cX7_drops 2 s ([.ref m0, .int (nI b)] : List Value).toArray wsX7_drops RX7 := X
  obtain ⟨hx, hb, hml, hown, hts⟩ := id X
  have hl : lv_has ls 2 [(0, .ref m0), (1, .int (nI b))] := hl
  have hinX7 : ∀ w ∈ u_ws RX7 TX7 12, w ∈ wsX7_drops := by decide +kernel
  refine lv_aload_n hx hb dX7_drops_0 rfl (lv_at hl 0 rfl) ?_
  refine lv_iconst (v := 0) hx hb dX7_drops_1 (by decide) ?_
  refine lv_eqi (y := nI (130 * 0)) (rfl) ?_
  refine lv_iload_n hx hb dX7_drops_2 rfl (lv_at hl 1 rfl) ?_
  refine lv_iconst (v := 1) hx hb dX7_drops_3 (by decide) ?_
  refine lv_iconst (v := (-1)) hx hb dX7_drops_4 (by decide) ?_
  refine kcallV (As := [.int (nI (130 * 0)), .int (nI b), .int 1, .int (-1)]) (rest := []) (Wn := [mdO m0 m1 m2 m3 th sv kp ln ca lt fi sd hs, arC cI m1 1170 (enc (uA B 0 (u2 (B 0) 1 b ((B 0 1 b) + (-1))))), arC cI m2 60 T, arC cI m3 8 h]) X (c_X7_adds1 l D cI cZ cS cJ m0 m1 m2 m3 th sv kp ln ca lt fi sd hs B T h 0 b (-1) (by omega) (by omega)) (cwV 4 hts gX7_drops_X7_adds rfl rfl rfl (by decide +kernel) ⟨Nat.le_of_ble_eq_true rfl, Nat.le_of_ble_eq_true rfl⟩) hK hP hD hS hA [0, 1, 2, 3] rfl (by decide +kernel) rfl rfl rfl 0 7 rfl rfl rfl hl.1 rfl (Nat.le_of_ble_eq_true rfl) dX7_drops_5 ⟨Nat.le_of_ble_eq_true rfl, Nat.le_of_ble_eq_true rfl⟩ (fun H locs hP hD hS => ?_)
  refine lv_aload_n hx hb dX7_drops_8 rfl (lv_at hl 0 rfl) ?_
  refine va_get (D := D) (ci := 7) (v := .ref m1) (C := RX7) (T := TX7) (N := 12) hx hb hts hinX7 hown hK hP 0 rfl rfl 1 (by decide) (hts (.fieldLink RX7 7 "RibbonBalloonsModel" "s" "[I") (by decide +kernel)) (fun _ h9 => h9) rfl dX7_drops_9 ?_
  refine lv_iconst (v := 5) hx hb dX7_drops_12 (by decide) ?_
  refine lv_dup2_11 hx hb dX7_drops_13 rfl rfl ?_
  refine r_iald hx hb hK hP 1 0 5 (f := enc (uA B 0 (u2 (B 0) 1 b ((B 0 1 b) + (-1))))) rfl rfl (by omega) (by omega) dX7_drops_14 ?_
  refine lv_iconst (v := 1) hx hb dX7_drops_15 (by decide) ?_
  refine lv_iadd hx hb dX7_drops_16 ?_
  refine r_iast hx hb hK hP hD hS 1 0 5 (f := enc (uA B 0 (u2 (B 0) 1 b ((B 0 1 b) + (-1))))) (x := ((enc (uA B 0 (u2 (B 0) 1 b ((B 0 1 b) + (-1))))) 5) + 1) (wn := List.flatten [mdO m0 m1 m2 m3 th sv kp ln ca lt fi sd hs, arC cI m1 1170 (upd (enc (uA B 0 (u2 (B 0) 1 b ((B 0 1 b) + (-1))))) 5 (((enc (uA B 0 (u2 (B 0) 1 b ((B 0 1 b) + (-1))))) 5) + 1)), arC cI m2 60 T, arC cI m3 8 h]) rfl rfl (by omega) (by omega) rfl dX7_drops_17 (fun H locs hP hD hS => ?_)
  obtain ⟨hP, hD⟩ := PD_cg hP hD 1 (enc (uA B 0 (u2 (u2 (B 0) 1 b (B 0 1 b + (-1))) 12 5 ((u2 (B 0) 1 b (B 0 1 b + (-1))) 12 5 + 1)))) rfl (fun j _ => enc_s0 B (u2 (B 0) 1 b (B 0 1 b + (-1))) (by decide) (fun e => by rw [e]) j) (wn := List.flatten [mdO m0 m1 m2 m3 th sv kp ln ca lt fi sd hs, arC cI m1 1170 (enc (uA B 0 (u2 (u2 (B 0) 1 b (B 0 1 b + (-1))) 12 5 ((u2 (B 0) 1 b (B 0 1 b + (-1))) 12 5 + 1)))), arC cI m2 60 T, arC cI m3 8 h]) rfl
  refine lv_aload_n hx hb dX7_drops_18 rfl (lv_at hl 0 rfl) ?_
  refine lv_iload_n hx hb dX7_drops_19 rfl (lv_at hl 1 rfl) ?_
  refine kcallV (As := [.int (nI b)]) (rest := []) (Wn := [mdO m0 m1 m2 m3 th sv kp ln ca lt fi sd hs, arC cI m1 1170 (enc (uA B 0 (u2 (u2 (B 0) 1 b (B 0 1 b + (-1))) 12 5 ((u2 (B 0) 1 b (B 0 1 b + (-1))) 12 5 + 1)))), arC cI m2 60 T, arC cI m3 8 (ht ((uA B 0 (u2 (u2 (B 0) 1 b (B 0 1 b + (-1))) 12 5 ((u2 (B 0) 1 b (B 0 1 b + (-1))) 12 5 + 1))) 0))]) X (c_X7_heightOf l D cI cZ cS cJ m0 m1 m2 m3 th sv kp ln ca lt fi sd hs (uA B 0 (u2 (u2 (B 0) 1 b (B 0 1 b + (-1))) 12 5 ((u2 (B 0) 1 b (B 0 1 b + (-1))) 12 5 + 1))) T h b (by omega) (fun r h => hT r h)) (cwV 1 hts gX7_drops_X7_heightOf rfl rfl rfl (by decide +kernel) ⟨Nat.le_of_ble_eq_true rfl, Nat.le_of_ble_eq_true rfl⟩) hK hP hD hS hA [0, 1, 2, 3] rfl (by decide +kernel) rfl rfl rfl 0 7 rfl rfl rfl hl.1 rfl (Nat.le_of_ble_eq_true rfl) dX7_drops_20 ⟨Nat.le_of_ble_eq_true rfl, Nat.le_of_ble_eq_true rfl⟩ (fun H locs hP hD hS => ?_)
  obtain ⟨hP, hD⟩ := PD_cg hP hD 3 (ht (u2 (u2 (B 0) 1 b (B 0 1 b + (-1))) 12 5 ((u2 (B 0) 1 b (B 0 1 b + (-1))) 12 5 + 1))) rfl (fun _ _ => rfl) (wn := List.flatten [mdO m0 m1 m2 m3 th sv kp ln ca lt fi sd hs, arC cI m1 1170 (enc (uA B 0 (u2 (u2 (B 0) 1 b (B 0 1 b + (-1))) 12 5 ((u2 (B 0) 1 b (B 0 1 b + (-1))) 12 5 + 1)))), arC cI m2 60 T, arC cI m3 8 (ht (u2 (u2 (B 0) 1 b (B 0 1 b + (-1))) 12 5 ((u2 (B 0) 1 b (B 0 1 b + (-1))) 12 5 + 1)))]) rfl
  refine hend _ _ _ _ _ ?_ hP hD hS dX7_drops_23
  exact rfl

set_option maxHeartbeats 4000000 in
set_option maxRecDepth 100000 in
theorem c_X7_puts (l : Launch) (D : va_G) (cI cZ cS cJ : ClassId) (m0 : Nat) (m1 : Nat) (m2 : Nat) (m3 : Nat) (th : Int32) (sv : Int32) (kp : Int32) (ln : Int32) (ca : Int32) (lt : Int32) (fi : Int32) (sd : Int32) (hs : Int64) (B : Nat → Nat → Nat → Int32) (T : Nat → Int32) (h : Nat → Int32) (b : Nat) (hb8 : b < 8) : C0 l yX7_puts wsX7_puts ({ frames := 1, cells := 0, slots := 0, locals := 24 }) D (tyL cI cZ cS cJ) [.ref m0, .int (nI b)] (List.flatten [mdO m0 m1 m2 m3 th sv kp ln ca lt fi sd hs, arC cI m1 1170 (enc B), arC cI m2 60 T, arC cI m3 8 h]) (some (.int (B 0 1 b + 1))) (List.flatten [mdO m0 m1 m2 m3 th sv kp ln ca lt fi sd hs, arC cI m1 1170 (enc (uA B 0 (u2 (B 0) 1 b ((B 0 1 b) + 1)))), arC cI m2 60 T, arC cI m3 8 h]) 0 0 := by
  refine C0_int (cc := cX7_puts) (maxL := 2) (rt := .int) (by decide) rfl (Nat.le_of_ble_eq_true rfl) (rfl) ?_
  intro p e s m below meth c A ls Q X hK hP hD hS hA hl hend
  have X : CallFix p m c cX7_puts 2 s ([.ref m0, .int (nI b)] : List Value).toArray wsX7_puts RX7 := X
  obtain ⟨hx, hb, hml, hown, hts⟩ := id X
  have hl : lv_has ls 2 [(0, .ref m0), (1, .int (nI b))] := hl
  refine lv_aload_n hx hb dX7_puts_0 rfl (lv_at hl 0 rfl) ?_
  refine lv_iconst (v := 0) hx hb dX7_puts_1 (by decide) ?_
  refine lv_eqi (y := nI (130 * 0)) (rfl) ?_
  refine lv_iload_n hx hb dX7_puts_2 rfl (lv_at hl 1 rfl) ?_
  refine lv_iconst (v := 1) hx hb dX7_puts_3 (by decide) ?_
  refine lv_iconst (v := 1) hx hb dX7_puts_4 (by decide) ?_
  refine kcallV (As := [.int (nI (130 * 0)), .int (nI b), .int 1, .int 1]) (rest := []) (Wn := [mdO m0 m1 m2 m3 th sv kp ln ca lt fi sd hs, arC cI m1 1170 (enc (uA B 0 (u2 (B 0) 1 b ((B 0 1 b) + 1)))), arC cI m2 60 T, arC cI m3 8 h]) X (c_X7_adds1 l D cI cZ cS cJ m0 m1 m2 m3 th sv kp ln ca lt fi sd hs B T h 0 b 1 (by omega) (by omega)) (cwV 4 hts gX7_puts_X7_adds rfl rfl rfl (by decide +kernel) ⟨Nat.le_of_ble_eq_true rfl, Nat.le_of_ble_eq_true rfl⟩) hK hP hD hS hA [0, 1, 2, 3] rfl (by decide +kernel) rfl rfl rfl 0 7 rfl rfl rfl hl.1 rfl (Nat.le_of_ble_eq_true rfl) dX7_puts_5 ⟨Nat.le_of_ble_eq_true rfl, Nat.le_of_ble_eq_true rfl⟩ (fun H locs hP hD hS => ?_)
  refine lv_aload_n hx hb dX7_puts_8 rfl (lv_at hl 0 rfl) ?_
  refine lv_iconst (v := 0) hx hb dX7_puts_9 (by decide) ?_
  refine lv_eqi (y := nI (130 * 0)) (rfl) ?_
  refine lv_iload_n hx hb dX7_puts_10 rfl (lv_at hl 1 rfl) ?_
  refine lv_iconst (v := 1) hx hb dX7_puts_11 (by decide) ?_
  refine kcallV (As := [.int (nI (130 * 0)), .int (nI b), .int 1]) (rest := []) (Wn := [mdO m0 m1 m2 m3 th sv kp ln ca lt fi sd hs, arC cI m1 1170 (enc (uA B 0 (u2 (B 0) 1 b ((B 0 1 b) + 1)))), arC cI m2 60 T, arC cI m3 8 h]) X (c_X7_of1 l D cI cZ cS cJ m0 m1 m2 m3 th sv kp ln ca lt fi sd hs (uA B 0 (u2 (B 0) 1 b ((B 0 1 b) + 1))) T h 0 b (by omega) (by omega)) (cwV 3 hts gX7_puts_X7_of rfl rfl rfl (by decide +kernel) ⟨Nat.le_of_ble_eq_true rfl, Nat.le_of_ble_eq_true rfl⟩) hK hP hD hS hA [0, 1, 2, 3] rfl (by decide +kernel) rfl rfl rfl 0 7 rfl rfl rfl hl.1 rfl (Nat.le_of_ble_eq_true rfl) dX7_puts_12 ⟨Nat.le_of_ble_eq_true rfl, Nat.le_of_ble_eq_true rfl⟩ (fun H locs hP hD hS => ?_)
  refine hend _ _ _ _ _ ?_ hP hD hS dX7_puts_15
  exact upd_s _ _ _

set_option maxHeartbeats 4000000 in
set_option maxRecDepth 100000 in
theorem c_X7_tells (l : Launch) (D : va_G) (cI cZ cS cJ : ClassId) (m0 : Nat) (m1 : Nat) (m2 : Nat) (m3 : Nat) (th : Int32) (sv : Int32) (kp : Int32) (ln : Int32) (ca : Int32) (lt : Int32) (fi : Int32) (sd : Int32) (hs : Int64) (B : Nat → Nat → Nat → Int32) (T : Nat → Int32) (h : Nat → Int32) (b : Nat) (hb8 : b < 8) (hT : ∀ r, r < 7 → B 0 3 r = 0 ∨ B 0 3 r = 1) : C0 l yX7_tells wsX7_tells ({ frames := 5, cells := 0, slots := 0, locals := 111 }) D (tyL cI cZ cS cJ) [.ref m0, .int (nI b)] (List.flatten [mdO m0 m1 m2 m3 th sv kp ln ca lt fi sd hs, arC cI m1 1170 (enc B), arC cI m2 60 T, arC cI m3 8 h]) (some (.int (tel (mended (B 0)) b))) (List.flatten [mdO m0 m1 m2 m3 th sv kp ln ca lt fi sd hs, arC cI m1 1170 (enc B), arC cI m2 60 T, arC cI m3 8 (ht (B 0))]) 0 0 := by
  refine C0_int (cc := cX7_tells) (maxL := 2) (rt := .int) (by decide) rfl (Nat.le_of_ble_eq_true rfl) (rfl) ?_
  intro p e s m below meth c A ls Q X hK hP hD hS hA hl hend
  have X : CallFix p m c cX7_tells 2 s ([.ref m0, .int (nI b)] : List Value).toArray wsX7_tells RX7 := X
  obtain ⟨hx, hb, hml, hown, hts⟩ := id X
  have hl : lv_has ls 2 [(0, .ref m0), (1, .int (nI b))] := hl
  have hinX7 : ∀ w ∈ u_ws RX7 TX7 12, w ∈ wsX7_tells := by decide +kernel
  refine lv_aload_n hx hb dX7_tells_0 rfl (lv_at hl 0 rfl) ?_
  refine lv_iload_n hx hb dX7_tells_1 rfl (lv_at hl 1 rfl) ?_
  refine kcallV (As := [.int (nI b)]) (rest := []) (Wn := [mdO m0 m1 m2 m3 th sv kp ln ca lt fi sd hs, arC cI m1 1170 (enc B), arC cI m2 60 T, arC cI m3 8 (ht (B 0))]) X (c_X7_heightOf l D cI cZ cS cJ m0 m1 m2 m3 th sv kp ln ca lt fi sd hs B T h b (by omega) hT) (cwV 1 hts gX7_tells_X7_heightOf rfl rfl rfl (by decide +kernel) ⟨Nat.le_of_ble_eq_true rfl, Nat.le_of_ble_eq_true rfl⟩) hK hP hD hS hA [0, 1, 2, 3] rfl (by decide +kernel) rfl rfl rfl 0 7 rfl rfl rfl hl.1 rfl (Nat.le_of_ble_eq_true rfl) dX7_tells_2 ⟨Nat.le_of_ble_eq_true rfl, Nat.le_of_ble_eq_true rfl⟩ (fun H locs hP hD hS => ?_)
  refine lv_aload_n hx hb dX7_tells_5 rfl (lv_at hl 0 rfl) ?_
  refine lv_iconst (v := 0) hx hb dX7_tells_6 (by decide) ?_
  refine lv_eqi (y := nI (130 * 0)) (rfl) ?_
  refine lv_iload_n hx hb dX7_tells_7 rfl (lv_at hl 1 rfl) ?_
  refine lv_iconst (v := 3) hx hb dX7_tells_8 (by decide) ?_
  refine kcallV (As := [.int (nI (130 * 0)), .int (nI b), .int 3]) (rest := [.int (ht (B 0) b)]) (Wn := [mdO m0 m1 m2 m3 th sv kp ln ca lt fi sd hs, arC cI m1 1170 (enc B), arC cI m2 60 T, arC cI m3 8 (ht (B 0))]) X (c_X7_of3 l D cI cZ cS cJ m0 m1 m2 m3 th sv kp ln ca lt fi sd hs B T (ht (B 0)) 0 b (by omega) (by omega)) (cwV 3 hts gX7_tells_X7_of rfl rfl rfl (by decide +kernel) ⟨Nat.le_of_ble_eq_true rfl, Nat.le_of_ble_eq_true rfl⟩) hK hP hD hS hA [0, 1, 2, 3] rfl (by decide +kernel) rfl rfl rfl 0 7 rfl rfl rfl hl.1 rfl (Nat.le_of_ble_eq_true rfl) dX7_tells_9 ⟨Nat.le_of_ble_eq_true rfl, Nat.le_of_ble_eq_true rfl⟩ (fun H locs hP hD hS => ?_)
  refine lv_aload_n hx hb dX7_tells_12 rfl (lv_at hl 0 rfl) ?_
  refine va_get (D := D) (ci := 7) (v := .ref m1) (C := RX7) (T := TX7) (N := 12) hx hb hts hinX7 hown hK hP 0 rfl rfl 1 (by decide) (hts (.fieldLink RX7 7 "RibbonBalloonsModel" "s" "[I") (by decide +kernel)) (fun _ h9 => h9) rfl dX7_tells_13 ?_
  refine lv_iconst (v := 0) hx hb dX7_tells_16 (by decide) ?_
  refine r_iald hx hb hK hP 1 0 0 (f := enc B) rfl rfl (by omega) (by omega) dX7_tells_17 ?_
  refine lv_eqi (y := B 0 12 0) (enc_at0 B (by decide)) ?_
  refine lv_aload_n hx hb dX7_tells_18 rfl (lv_at hl 0 rfl) ?_
  refine lv_iconst (v := 0) hx hb dX7_tells_19 (by decide) ?_
  refine lv_eqi (y := nI (130 * 0)) (rfl) ?_
  refine lv_iload_n hx hb dX7_tells_20 rfl (lv_at hl 1 rfl) ?_
  refine lv_iconst (v := 4) hx hb dX7_tells_21 (by decide) ?_
  refine kcallV (As := [.int (nI (130 * 0)), .int (nI b), .int 4]) (rest := [.int (B 0 12 0), .int (B 0 10 b), .int (ht (B 0) b)]) (Wn := [mdO m0 m1 m2 m3 th sv kp ln ca lt fi sd hs, arC cI m1 1170 (enc B), arC cI m2 60 T, arC cI m3 8 (ht (B 0))]) X (c_X7_of4 l D cI cZ cS cJ m0 m1 m2 m3 th sv kp ln ca lt fi sd hs B T (ht (B 0)) 0 b (by omega) (by omega)) (cwV 3 hts gX7_tells_X7_of rfl rfl rfl (by decide +kernel) ⟨Nat.le_of_ble_eq_true rfl, Nat.le_of_ble_eq_true rfl⟩) hK hP hD hS hA [0, 1, 2, 3] rfl (by decide +kernel) rfl rfl rfl 0 7 rfl rfl rfl hl.1 rfl (Nat.le_of_ble_eq_true rfl) dX7_tells_22 ⟨Nat.le_of_ble_eq_true rfl, Nat.le_of_ble_eq_true rfl⟩ (fun H locs hP hD hS => ?_)
  refine lv_isub hx hb dX7_tells_25 ?_
  refine lv_imul hx hb dX7_tells_26 ?_
  refine lv_iconst (v := 4) hx hb dX7_tells_27 (by decide) ?_
  refine lv_idiv hx hb dX7_tells_28 (by decide) ?_
  refine lv_iadd hx hb dX7_tells_29 ?_
  refine hend _ _ _ _ _ ?_ hP hD hS dX7_tells_30
  exact rfl

set_option maxHeartbeats 4000000 in
set_option maxRecDepth 100000 in
theorem c_X7_stops102 (l : Launch) (D : va_G) (cI cZ cS cJ : ClassId) (m0 : Nat) (m1 : Nat) (m2 : Nat) (m3 : Nat) (th : Int32) (sv : Int32) (kp : Int32) (ln : Int32) (ca : Int32) (hs : Int64) (B : Nat → Nat → Nat → Int32) (T : Nat → Int32) (h : Nat → Int32) (a : Nat) (y : Int32) (hG : GB (B 0)) (h6 : B 0 6 = ht (B 0)) (hy : B 0 12 8 = nI (cy (B 0))) (hy20 : cy (B 0) ≤ 20) (ha8 : a < 8) (hyy : 1 ≤ y.toInt ∧ y.toInt ≤ 99) : CE (U := (Nat → Int32)) l yX7_stops wsX7_stops ({ frames := 6, cells := 0, slots := 0, locals := 133 }) D (tyL cI cZ cS cJ) [.ref m0] (List.flatten [mdO m0 m1 m2 m3 th sv kp ln ca 102 (nI a) y hs, arC cI m1 1170 (enc B), arC cI m2 60 T, arC cI m3 8 h]) (fun u => True) (fun u => some (.int (rsn (B 0) 102 a y))) (fun u => List.flatten [mdO m0 m1 m2 m3 th sv kp ln ca 102 (nI a) y hs, arC cI m1 1170 (enc B), arC cI m2 60 T, arC cI m3 8 u]) 0 0 := by
  refine CE_int (cc := cX7_stops) (maxL := 1) (rt := .int) (by decide) rfl (Nat.le_of_ble_eq_true rfl) (fun _ _ => rfl) ?_
  intro p e s m below meth c A ls Q X hK hP hD hS hA hl hend
  have X : CallFix p m c cX7_stops 1 s ([.ref m0] : List Value).toArray wsX7_stops RX7 := X
  obtain ⟨hx, hb, hml, hown, hts⟩ := id X
  have hl : lv_has ls 1 [(0, .ref m0)] := hl
  have hinX7 : ∀ w ∈ u_ws RX7 TX7 12, w ∈ wsX7_stops := by decide +kernel
  refine lv_aload_n hx hb dX7_stops_0 rfl (lv_at hl 0 rfl) ?_
  refine va_get (D := D) (ci := 7) (v := .int 102) (C := RX7) (T := TX7) (N := 12) hx hb hts hinX7 hown hK hP 0 rfl rfl 7 (by decide) (hts (.fieldLink RX7 165 "RibbonBalloonsModel" "letter" "I") (by decide +kernel)) (fun _ h9 => h9) rfl dX7_stops_1 ?_
  refine lv_lookup (tgt := 56) hx hb dX7_stops_4 (by decide) rfl (by decide) ?_
  refine lv_aload_n hx hb dX7_stops_56 rfl (lv_at hl 0 rfl) ?_
  refine lv_aload_n hx hb dX7_stops_57 rfl (lv_at hl 0 rfl) ?_
  refine va_get (D := D) (ci := 7) (v := .int (nI a)) (C := RX7) (T := TX7) (N := 12) hx hb hts hinX7 hown hK hP 0 rfl rfl 8 (by decide) (hts (.fieldLink RX7 174 "RibbonBalloonsModel" "first" "I") (by decide +kernel)) (fun _ h9 => h9) rfl dX7_stops_58 ?_
  refine lv_aload_n hx hb dX7_stops_61 rfl (lv_at hl 0 rfl) ?_
  refine va_get (D := D) (ci := 7) (v := .int y) (C := RX7) (T := TX7) (N := 12) hx hb hts hinX7 hown hK hP 0 rfl rfl 9 (by decide) (hts (.fieldLink RX7 177 "RibbonBalloonsModel" "second" "I") (by decide +kernel)) (fun _ h9 => h9) rfl dX7_stops_62 ?_
  refine kcallV (As := [.int (nI a), .int y]) (rest := []) (Wn := [mdO m0 m1 m2 m3 th sv kp ln ca 102 (nI a) y hs, arC cI m1 1170 (enc B), arC cI m2 60 T, arC cI m3 8 (if 200 < B 0 0 a + y then h else ht (B 0))]) X (c_X7_noFill l D cI cZ cS cJ m0 m1 m2 m3 th sv kp ln ca 102 (nI a) y hs B T h a y (by omega) (GB_T hG)) (cwV 2 hts gX7_stops_X7_noFill rfl rfl rfl (by decide +kernel) ⟨Nat.le_of_ble_eq_true rfl, Nat.le_of_ble_eq_true rfl⟩) hK hP hD hS hA [0, 1, 2, 3] rfl (by decide +kernel) rfl rfl rfl 0 7 rfl rfl rfl hl.1 rfl (Nat.le_of_ble_eq_true rfl) dX7_stops_65 ⟨Nat.le_of_ble_eq_true rfl, Nat.le_of_ble_eq_true rfl⟩ (fun H locs hP hD hS => ?_)
  refine lv_eqi (y := wn0 (B 0) a y) (by rw [mend_id h6]) ?_
  refine hend ((if 200 < B 0 0 a + y then h else ht (B 0))) _ _ _ _ _ trivial ?_ hP hD hS dX7_stops_68
  exact rfl

set_option maxHeartbeats 4000000 in
set_option maxRecDepth 100000 in
theorem c_X7_stops118 (l : Launch) (D : va_G) (cI cZ cS cJ : ClassId) (m0 : Nat) (m1 : Nat) (m2 : Nat) (m3 : Nat) (th : Int32) (sv : Int32) (kp : Int32) (ln : Int32) (ca : Int32) (hs : Int64) (B : Nat → Nat → Nat → Int32) (T : Nat → Int32) (h : Nat → Int32) (a : Nat) (y : Int32) (hG : GB (B 0)) (h6 : B 0 6 = ht (B 0)) (hy : B 0 12 8 = nI (cy (B 0))) (hy20 : cy (B 0) ≤ 20) (ha8 : a < 8) (hyy : 1 ≤ y.toInt ∧ y.toInt ≤ 99) : CE (U := (Nat → Int32)) l yX7_stops wsX7_stops ({ frames := 6, cells := 0, slots := 0, locals := 133 }) D (tyL cI cZ cS cJ) [.ref m0] (List.flatten [mdO m0 m1 m2 m3 th sv kp ln ca 118 (nI a) y hs, arC cI m1 1170 (enc B), arC cI m2 60 T, arC cI m3 8 h]) (fun u => True) (fun u => some (.int (rsn (B 0) 118 a y))) (fun u => List.flatten [mdO m0 m1 m2 m3 th sv kp ln ca 118 (nI a) y hs, arC cI m1 1170 (enc B), arC cI m2 60 T, arC cI m3 8 u]) 0 0 := by
  refine CE_int (cc := cX7_stops) (maxL := 1) (rt := .int) (by decide) rfl (Nat.le_of_ble_eq_true rfl) (fun _ _ => rfl) ?_
  intro p e s m below meth c A ls Q X hK hP hD hS hA hl hend
  have X : CallFix p m c cX7_stops 1 s ([.ref m0] : List Value).toArray wsX7_stops RX7 := X
  obtain ⟨hx, hb, hml, hown, hts⟩ := id X
  have hl : lv_has ls 1 [(0, .ref m0)] := hl
  have hinX7 : ∀ w ∈ u_ws RX7 TX7 12, w ∈ wsX7_stops := by decide +kernel
  refine lv_aload_n hx hb dX7_stops_0 rfl (lv_at hl 0 rfl) ?_
  refine va_get (D := D) (ci := 7) (v := .int 118) (C := RX7) (T := TX7) (N := 12) hx hb hts hinX7 hown hK hP 0 rfl rfl 7 (by decide) (hts (.fieldLink RX7 165 "RibbonBalloonsModel" "letter" "I") (by decide +kernel)) (fun _ h9 => h9) rfl dX7_stops_1 ?_
  refine lv_lookup (tgt := 69) hx hb dX7_stops_4 (by decide) rfl (by decide) ?_
  refine lv_aload_n hx hb dX7_stops_69 rfl (lv_at hl 0 rfl) ?_
  refine lv_aload_n hx hb dX7_stops_70 rfl (lv_at hl 0 rfl) ?_
  refine va_get (D := D) (ci := 7) (v := .int (nI a)) (C := RX7) (T := TX7) (N := 12) hx hb hts hinX7 hown hK hP 0 rfl rfl 8 (by decide) (hts (.fieldLink RX7 174 "RibbonBalloonsModel" "first" "I") (by decide +kernel)) (fun _ h9 => h9) rfl dX7_stops_71 ?_
  refine lv_aload_n hx hb dX7_stops_74 rfl (lv_at hl 0 rfl) ?_
  refine va_get (D := D) (ci := 7) (v := .int y) (C := RX7) (T := TX7) (N := 12) hx hb hts hinX7 hown hK hP 0 rfl rfl 9 (by decide) (hts (.fieldLink RX7 177 "RibbonBalloonsModel" "second" "I") (by decide +kernel)) (fun _ h9 => h9) rfl dX7_stops_75 ?_
  refine kcallV (As := [.int (nI a), .int y]) (rest := []) (Wn := [mdO m0 m1 m2 m3 th sv kp ln ca 118 (nI a) y hs, arC cI m1 1170 (enc B), arC cI m2 60 T, arC cI m3 8 h]) X (c_X7_noVent l D cI cZ cS cJ m0 m1 m2 m3 th sv kp ln ca 118 (nI a) y hs B T h a y (by omega)) (cwV 2 hts gX7_stops_X7_noVent rfl rfl rfl (by decide +kernel) ⟨Nat.le_of_ble_eq_true rfl, Nat.le_of_ble_eq_true rfl⟩) hK hP hD hS hA [0, 1, 2, 3] rfl (by decide +kernel) rfl rfl rfl 0 7 rfl rfl rfl hl.1 rfl (Nat.le_of_ble_eq_true rfl) dX7_stops_78 ⟨Nat.le_of_ble_eq_true rfl, Nat.le_of_ble_eq_true rfl⟩ (fun H locs hP hD hS => ?_)
  refine hend (h) _ _ _ _ _ trivial ?_ hP hD hS dX7_stops_81
  exact rfl

set_option maxHeartbeats 4000000 in
set_option maxRecDepth 100000 in
theorem c_X7_stops100 (l : Launch) (D : va_G) (cI cZ cS cJ : ClassId) (m0 : Nat) (m1 : Nat) (m2 : Nat) (m3 : Nat) (th : Int32) (sv : Int32) (kp : Int32) (ln : Int32) (ca : Int32) (hs : Int64) (B : Nat → Nat → Nat → Int32) (T : Nat → Int32) (h : Nat → Int32) (a : Nat) (y : Int32) (hG : GB (B 0)) (h6 : B 0 6 = ht (B 0)) (hy : B 0 12 8 = nI (cy (B 0))) (hy20 : cy (B 0) ≤ 20) (ha8 : a < 8) : CE (U := (Nat → Int32)) l yX7_stops wsX7_stops ({ frames := 6, cells := 0, slots := 0, locals := 133 }) D (tyL cI cZ cS cJ) [.ref m0] (List.flatten [mdO m0 m1 m2 m3 th sv kp ln ca 100 (nI a) y hs, arC cI m1 1170 (enc B), arC cI m2 60 T, arC cI m3 8 h]) (fun u => True) (fun u => some (.int (rsn (B 0) 100 a y))) (fun u => List.flatten [mdO m0 m1 m2 m3 th sv kp ln ca 100 (nI a) y hs, arC cI m1 1170 (enc B), arC cI m2 60 T, arC cI m3 8 u]) 0 0 := by
  refine CE_int (cc := cX7_stops) (maxL := 1) (rt := .int) (by decide) rfl (Nat.le_of_ble_eq_true rfl) (fun _ _ => rfl) ?_
  intro p e s m below meth c A ls Q X hK hP hD hS hA hl hend
  have X : CallFix p m c cX7_stops 1 s ([.ref m0] : List Value).toArray wsX7_stops RX7 := X
  obtain ⟨hx, hb, hml, hown, hts⟩ := id X
  have hl : lv_has ls 1 [(0, .ref m0)] := hl
  have hinX7 : ∀ w ∈ u_ws RX7 TX7 12, w ∈ wsX7_stops := by decide +kernel
  refine lv_aload_n hx hb dX7_stops_0 rfl (lv_at hl 0 rfl) ?_
  refine va_get (D := D) (ci := 7) (v := .int 100) (C := RX7) (T := TX7) (N := 12) hx hb hts hinX7 hown hK hP 0 rfl rfl 7 (by decide) (hts (.fieldLink RX7 165 "RibbonBalloonsModel" "letter" "I") (by decide +kernel)) (fun _ h9 => h9) rfl dX7_stops_1 ?_
  refine lv_lookup (tgt := 82) hx hb dX7_stops_4 (by decide) rfl (by decide) ?_
  refine lv_aload_n hx hb dX7_stops_82 rfl (lv_at hl 0 rfl) ?_
  refine lv_aload_n hx hb dX7_stops_83 rfl (lv_at hl 0 rfl) ?_
  refine va_get (D := D) (ci := 7) (v := .int (nI a)) (C := RX7) (T := TX7) (N := 12) hx hb hts hinX7 hown hK hP 0 rfl rfl 8 (by decide) (hts (.fieldLink RX7 174 "RibbonBalloonsModel" "first" "I") (by decide +kernel)) (fun _ h9 => h9) rfl dX7_stops_84 ?_
  refine kcallV (As := [.int (nI a)]) (rest := []) (Wn := [mdO m0 m1 m2 m3 th sv kp ln ca 100 (nI a) y hs, arC cI m1 1170 (enc B), arC cI m2 60 T, arC cI m3 8 h]) X (c_X7_noDrop l D cI cZ cS cJ m0 m1 m2 m3 th sv kp ln ca 100 (nI a) y hs B T h a (by omega)) (cwV 1 hts gX7_stops_X7_noDrop rfl rfl rfl (by decide +kernel) ⟨Nat.le_of_ble_eq_true rfl, Nat.le_of_ble_eq_true rfl⟩) hK hP hD hS hA [0, 1, 2, 3] rfl (by decide +kernel) rfl rfl rfl 0 7 rfl rfl rfl hl.1 rfl (Nat.le_of_ble_eq_true rfl) dX7_stops_87 ⟨Nat.le_of_ble_eq_true rfl, Nat.le_of_ble_eq_true rfl⟩ (fun H locs hP hD hS => ?_)
  refine hend (h) _ _ _ _ _ trivial ?_ hP hD hS dX7_stops_90
  exact rfl

set_option maxHeartbeats 4000000 in
set_option maxRecDepth 100000 in
theorem c_X7_stops112 (l : Launch) (D : va_G) (cI cZ cS cJ : ClassId) (m0 : Nat) (m1 : Nat) (m2 : Nat) (m3 : Nat) (th : Int32) (sv : Int32) (kp : Int32) (ln : Int32) (ca : Int32) (hs : Int64) (B : Nat → Nat → Nat → Int32) (T : Nat → Int32) (h : Nat → Int32) (a : Nat) (y : Int32) (hG : GB (B 0)) (h6 : B 0 6 = ht (B 0)) (hy : B 0 12 8 = nI (cy (B 0))) (hy20 : cy (B 0) ≤ 20) (ha8 : a < 8) : CE (U := (Nat → Int32)) l yX7_stops wsX7_stops ({ frames := 6, cells := 0, slots := 0, locals := 133 }) D (tyL cI cZ cS cJ) [.ref m0] (List.flatten [mdO m0 m1 m2 m3 th sv kp ln ca 112 (nI a) y hs, arC cI m1 1170 (enc B), arC cI m2 60 T, arC cI m3 8 h]) (fun u => True) (fun u => some (.int (rsn (B 0) 112 a y))) (fun u => List.flatten [mdO m0 m1 m2 m3 th sv kp ln ca 112 (nI a) y hs, arC cI m1 1170 (enc B), arC cI m2 60 T, arC cI m3 8 u]) 0 0 := by
  refine CE_int (cc := cX7_stops) (maxL := 1) (rt := .int) (by decide) rfl (Nat.le_of_ble_eq_true rfl) (fun _ _ => rfl) ?_
  intro p e s m below meth c A ls Q X hK hP hD hS hA hl hend
  have X : CallFix p m c cX7_stops 1 s ([.ref m0] : List Value).toArray wsX7_stops RX7 := X
  obtain ⟨hx, hb, hml, hown, hts⟩ := id X
  have hl : lv_has ls 1 [(0, .ref m0)] := hl
  have hinX7 : ∀ w ∈ u_ws RX7 TX7 12, w ∈ wsX7_stops := by decide +kernel
  refine lv_aload_n hx hb dX7_stops_0 rfl (lv_at hl 0 rfl) ?_
  refine va_get (D := D) (ci := 7) (v := .int 112) (C := RX7) (T := TX7) (N := 12) hx hb hts hinX7 hown hK hP 0 rfl rfl 7 (by decide) (hts (.fieldLink RX7 165 "RibbonBalloonsModel" "letter" "I") (by decide +kernel)) (fun _ h9 => h9) rfl dX7_stops_1 ?_
  refine lv_lookup (tgt := 91) hx hb dX7_stops_4 (by decide) rfl (by decide) ?_
  refine lv_aload_n hx hb dX7_stops_91 rfl (lv_at hl 0 rfl) ?_
  refine lv_aload_n hx hb dX7_stops_92 rfl (lv_at hl 0 rfl) ?_
  refine va_get (D := D) (ci := 7) (v := .int (nI a)) (C := RX7) (T := TX7) (N := 12) hx hb hts hinX7 hown hK hP 0 rfl rfl 8 (by decide) (hts (.fieldLink RX7 174 "RibbonBalloonsModel" "first" "I") (by decide +kernel)) (fun _ h9 => h9) rfl dX7_stops_93 ?_
  refine kcallVE (As := [.int (nI a)]) (rest := []) (Wn := fun u => [mdO m0 m1 m2 m3 th sv kp ln ca 112 (nI a) y hs, arC cI m1 1170 (enc B), arC cI m2 60 T, arC cI m3 8 u]) X (c_X7_noPut l D cI cZ cS cJ m0 m1 m2 m3 th sv kp ln ca 112 (nI a) y hs B T h a (by omega) hG h6) (cwV 1 hts gX7_stops_X7_noPut rfl rfl rfl (by decide +kernel) ⟨Nat.le_of_ble_eq_true rfl, Nat.le_of_ble_eq_true rfl⟩) hK hP hD hS hA [0, 1, 2, 3] rfl (by decide +kernel) (fun _ => rfl) (fun _ => rfl) (fun _ => rfl) 0 7 rfl rfl rfl hl.1 rfl (Nat.le_of_ble_eq_true rfl) dX7_stops_96 ⟨Nat.le_of_ble_eq_true rfl, Nat.le_of_ble_eq_true rfl⟩ (fun h9_1 H locs hu hP hD hS => ?_)
  have hP : va_P D vwCl (List.flatten [mdO m0 m1 m2 m3 th sv kp ln ca 112 (nI a) y hs, arC cI m1 1170 (enc B), arC cI m2 60 T, arC cI m3 8 h9_1]) _ := hP
  have hD : va_D A (List.flatten [mdO m0 m1 m2 m3 th sv kp ln ca 112 (nI a) y hs, arC cI m1 1170 (enc B), arC cI m2 60 T, arC cI m3 8 h9_1]) := hD
  refine hend (h9_1) _ _ _ _ _ trivial ?_ hP hD hS dX7_stops_99
  exact rfl

set_option maxHeartbeats 4000000 in
set_option maxRecDepth 100000 in
theorem c_X7_stops99 (l : Launch) (D : va_G) (cI cZ cS cJ : ClassId) (m0 : Nat) (m1 : Nat) (m2 : Nat) (m3 : Nat) (th : Int32) (sv : Int32) (kp : Int32) (ln : Int32) (ca : Int32) (hs : Int64) (B : Nat → Nat → Nat → Int32) (T : Nat → Int32) (h : Nat → Int32) (a : Nat) (y : Int32) (hG : GB (B 0)) (h6 : B 0 6 = ht (B 0)) (hy : B 0 12 8 = nI (cy (B 0))) (hy20 : cy (B 0) ≤ 20) (ha7 : a < 7) : CE (U := (Nat → Int32)) l yX7_stops wsX7_stops ({ frames := 6, cells := 0, slots := 0, locals := 133 }) D (tyL cI cZ cS cJ) [.ref m0] (List.flatten [mdO m0 m1 m2 m3 th sv kp ln ca 99 (nI a) y hs, arC cI m1 1170 (enc B), arC cI m2 60 T, arC cI m3 8 h]) (fun u => True) (fun u => some (.int (rsn (B 0) 99 a y))) (fun u => List.flatten [mdO m0 m1 m2 m3 th sv kp ln ca 99 (nI a) y hs, arC cI m1 1170 (enc B), arC cI m2 60 T, arC cI m3 8 u]) 0 0 := by
  refine CE_int (cc := cX7_stops) (maxL := 1) (rt := .int) (by decide) rfl (Nat.le_of_ble_eq_true rfl) (fun _ _ => rfl) ?_
  intro p e s m below meth c A ls Q X hK hP hD hS hA hl hend
  have X : CallFix p m c cX7_stops 1 s ([.ref m0] : List Value).toArray wsX7_stops RX7 := X
  obtain ⟨hx, hb, hml, hown, hts⟩ := id X
  have hl : lv_has ls 1 [(0, .ref m0)] := hl
  have hinX7 : ∀ w ∈ u_ws RX7 TX7 12, w ∈ wsX7_stops := by decide +kernel
  refine lv_aload_n hx hb dX7_stops_0 rfl (lv_at hl 0 rfl) ?_
  refine va_get (D := D) (ci := 7) (v := .int 99) (C := RX7) (T := TX7) (N := 12) hx hb hts hinX7 hown hK hP 0 rfl rfl 7 (by decide) (hts (.fieldLink RX7 165 "RibbonBalloonsModel" "letter" "I") (by decide +kernel)) (fun _ h9 => h9) rfl dX7_stops_1 ?_
  refine lv_lookup (tgt := 100) hx hb dX7_stops_4 (by decide) rfl (by decide) ?_
  refine lv_aload_n hx hb dX7_stops_100 rfl (lv_at hl 0 rfl) ?_
  refine lv_aload_n hx hb dX7_stops_101 rfl (lv_at hl 0 rfl) ?_
  refine va_get (D := D) (ci := 7) (v := .int (nI a)) (C := RX7) (T := TX7) (N := 12) hx hb hts hinX7 hown hK hP 0 rfl rfl 8 (by decide) (hts (.fieldLink RX7 174 "RibbonBalloonsModel" "first" "I") (by decide +kernel)) (fun _ h9 => h9) rfl dX7_stops_102 ?_
  refine kcallV (As := [.int (nI a)]) (rest := []) (Wn := [mdO m0 m1 m2 m3 th sv kp ln ca 99 (nI a) y hs, arC cI m1 1170 (enc B), arC cI m2 60 T, arC cI m3 8 h]) X (c_X7_noCut l D cI cZ cS cJ m0 m1 m2 m3 th sv kp ln ca 99 (nI a) y hs B T h a (by omega) (GB_T hG)) (cwV 1 hts gX7_stops_X7_noCut rfl rfl rfl (by decide +kernel) ⟨Nat.le_of_ble_eq_true rfl, Nat.le_of_ble_eq_true rfl⟩) hK hP hD hS hA [0, 1, 2, 3] rfl (by decide +kernel) rfl rfl rfl 0 7 rfl rfl rfl hl.1 rfl (Nat.le_of_ble_eq_true rfl) dX7_stops_105 ⟨Nat.le_of_ble_eq_true rfl, Nat.le_of_ble_eq_true rfl⟩ (fun H locs hP hD hS => ?_)
  refine hend (h) _ _ _ _ _ trivial ?_ hP hD hS dX7_stops_108
  exact rfl

set_option maxHeartbeats 4000000 in
set_option maxRecDepth 100000 in
theorem c_X7_stops110 (l : Launch) (D : va_G) (cI cZ cS cJ : ClassId) (m0 : Nat) (m1 : Nat) (m2 : Nat) (m3 : Nat) (th : Int32) (sv : Int32) (kp : Int32) (ln : Int32) (ca : Int32) (hs : Int64) (B : Nat → Nat → Nat → Int32) (T : Nat → Int32) (h : Nat → Int32) (a : Nat) (y : Int32) (hG : GB (B 0)) (h6 : B 0 6 = ht (B 0)) (hy : B 0 12 8 = nI (cy (B 0))) (hy20 : cy (B 0) ≤ 20) (ha8 : a < 8) : CE (U := (Nat → Int32)) l yX7_stops wsX7_stops ({ frames := 6, cells := 0, slots := 0, locals := 133 }) D (tyL cI cZ cS cJ) [.ref m0] (List.flatten [mdO m0 m1 m2 m3 th sv kp ln ca 110 (nI a) y hs, arC cI m1 1170 (enc B), arC cI m2 60 T, arC cI m3 8 h]) (fun u => True) (fun u => some (.int (rsn (B 0) 110 a y))) (fun u => List.flatten [mdO m0 m1 m2 m3 th sv kp ln ca 110 (nI a) y hs, arC cI m1 1170 (enc B), arC cI m2 60 T, arC cI m3 8 u]) 0 0 := by
  refine CE_int (cc := cX7_stops) (maxL := 1) (rt := .int) (by decide) rfl (Nat.le_of_ble_eq_true rfl) (fun _ _ => rfl) ?_
  intro p e s m below meth c A ls Q X hK hP hD hS hA hl hend
  have X : CallFix p m c cX7_stops 1 s ([.ref m0] : List Value).toArray wsX7_stops RX7 := X
  obtain ⟨hx, hb, hml, hown, hts⟩ := id X
  have hl : lv_has ls 1 [(0, .ref m0)] := hl
  have hinX7 : ∀ w ∈ u_ws RX7 TX7 12, w ∈ wsX7_stops := by decide +kernel
  refine lv_aload_n hx hb dX7_stops_0 rfl (lv_at hl 0 rfl) ?_
  refine va_get (D := D) (ci := 7) (v := .int 110) (C := RX7) (T := TX7) (N := 12) hx hb hts hinX7 hown hK hP 0 rfl rfl 7 (by decide) (hts (.fieldLink RX7 165 "RibbonBalloonsModel" "letter" "I") (by decide +kernel)) (fun _ h9 => h9) rfl dX7_stops_1 ?_
  refine lv_lookup (tgt := 109) hx hb dX7_stops_4 (by decide) rfl (by decide) ?_
  refine lv_iconst (v := 0) hx hb dX7_stops_109 (by decide) ?_
  refine hend (h) _ _ _ _ _ trivial ?_ hP hD hS dX7_stops_110
  exact rfl

set_option maxHeartbeats 4000000 in
set_option maxRecDepth 100000 in
theorem c_X7_stops104 (l : Launch) (D : va_G) (cI cZ cS cJ : ClassId) (m0 : Nat) (m1 : Nat) (m2 : Nat) (m3 : Nat) (th : Int32) (sv : Int32) (kp : Int32) (ln : Int32) (ca : Int32) (hs : Int64) (B : Nat → Nat → Nat → Int32) (T : Nat → Int32) (h : Nat → Int32) (a : Nat) (y : Int32) (hG : GB (B 0)) (h6 : B 0 6 = ht (B 0)) (hy : B 0 12 8 = nI (cy (B 0))) (hy20 : cy (B 0) ≤ 20) (ha : 1 ≤ a ∧ a ≤ 99) : CE (U := (Nat → Int32)) l yX7_stops wsX7_stops ({ frames := 6, cells := 0, slots := 0, locals := 133 }) D (tyL cI cZ cS cJ) [.ref m0] (List.flatten [mdO m0 m1 m2 m3 th sv kp ln ca 104 (nI a) y hs, arC cI m1 1170 (enc B), arC cI m2 60 T, arC cI m3 8 h]) (fun u => True) (fun u => some (.int (rsn (B 0) 104 a y))) (fun u => List.flatten [mdO m0 m1 m2 m3 th sv kp ln ca 104 (nI a) y hs, arC cI m1 1170 (enc B), arC cI m2 60 T, arC cI m3 8 u]) 0 0 := by
  refine CE_int (cc := cX7_stops) (maxL := 1) (rt := .int) (by decide) rfl (Nat.le_of_ble_eq_true rfl) (fun _ _ => rfl) ?_
  intro p e s m below meth c A ls Q X hK hP hD hS hA hl hend
  have X : CallFix p m c cX7_stops 1 s ([.ref m0] : List Value).toArray wsX7_stops RX7 := X
  obtain ⟨hx, hb, hml, hown, hts⟩ := id X
  have hl : lv_has ls 1 [(0, .ref m0)] := hl
  have hinX7 : ∀ w ∈ u_ws RX7 TX7 12, w ∈ wsX7_stops := by decide +kernel
  refine lv_aload_n hx hb dX7_stops_0 rfl (lv_at hl 0 rfl) ?_
  refine va_get (D := D) (ci := 7) (v := .int 104) (C := RX7) (T := TX7) (N := 12) hx hb hts hinX7 hown hK hP 0 rfl rfl 7 (by decide) (hts (.fieldLink RX7 165 "RibbonBalloonsModel" "letter" "I") (by decide +kernel)) (fun _ h9 => h9) rfl dX7_stops_1 ?_
  refine lv_lookup (tgt := 109) hx hb dX7_stops_4 (by decide) rfl (by decide) ?_
  refine lv_iconst (v := 0) hx hb dX7_stops_109 (by decide) ?_
  refine hend (h) _ _ _ _ _ trivial ?_ hP hD hS dX7_stops_110
  exact rfl

set_option maxHeartbeats 4000000 in
set_option maxRecDepth 100000 in
theorem c_X7_stops (l : Launch) (D : va_G) (cI cZ cS cJ : ClassId) (m0 : Nat) (m1 : Nat) (m2 : Nat) (m3 : Nat) (th : Int32) (sv : Int32) (kp : Int32) (ln : Int32) (ca : Int32) (hs : Int64) (B : Nat → Nat → Nat → Int32) (T : Nat → Int32) (h : Nat → Int32) (lt : Int32) (a : Nat) (y : Int32) (hG : GB (B 0)) (h6 : B 0 6 = ht (B 0)) (hy : B 0 12 8 = nI (cy (B 0))) (hy20 : cy (B 0) ≤ 20) (hp : PL lt a y) : CE (U := (Nat → Int32)) l yX7_stops wsX7_stops ({ frames := 6, cells := 0, slots := 0, locals := 133 }) D (tyL cI cZ cS cJ) [.ref m0] (List.flatten [mdO m0 m1 m2 m3 th sv kp ln ca lt (nI a) y hs, arC cI m1 1170 (enc B), arC cI m2 60 T, arC cI m3 8 h]) (fun u => True) (fun u => some (.int (rsn (B 0) lt a y))) (fun u => List.flatten [mdO m0 m1 m2 m3 th sv kp ln ca lt (nI a) y hs, arC cI m1 1170 (enc B), arC cI m2 60 T, arC cI m3 8 u]) 0 0 := by
  rcases hp with ⟨rfl, h1, h2⟩ | ⟨rfl, h1, h2⟩ | ⟨rfl, h1⟩ | ⟨rfl, h1⟩ | ⟨rfl, h1⟩ | ⟨rfl, h1⟩ | ⟨rfl, h1⟩
  · exact c_X7_stops102 l D cI cZ cS cJ m0 m1 m2 m3 th sv kp ln ca hs B T h a y hG h6 hy hy20 h1 h2
  · exact c_X7_stops118 l D cI cZ cS cJ m0 m1 m2 m3 th sv kp ln ca hs B T h a y hG h6 hy hy20 h1 h2
  · exact c_X7_stops100 l D cI cZ cS cJ m0 m1 m2 m3 th sv kp ln ca hs B T h a y hG h6 hy hy20 h1
  · exact c_X7_stops112 l D cI cZ cS cJ m0 m1 m2 m3 th sv kp ln ca hs B T h a y hG h6 hy hy20 h1
  · exact c_X7_stops99 l D cI cZ cS cJ m0 m1 m2 m3 th sv kp ln ca hs B T h a y hG h6 hy hy20 h1
  · exact c_X7_stops110 l D cI cZ cS cJ m0 m1 m2 m3 th sv kp ln ca hs B T h a y hG h6 hy hy20 h1
  · exact c_X7_stops104 l D cI cZ cS cJ m0 m1 m2 m3 th sv kp ln ca hs B T h a y hG h6 hy hy20 h1

set_option maxHeartbeats 4000000 in
set_option maxRecDepth 100000 in
theorem c_X7_does102 (l : Launch) (D : va_G) (cI cZ cS cJ : ClassId) (m0 : Nat) (m1 : Nat) (m2 : Nat) (m3 : Nat) (th : Int32) (sv : Int32) (kp : Int32) (ln : Int32) (ca : Int32) (hs : Int64) (B : Nat → Nat → Nat → Int32) (T : Nat → Int32) (h : Nat → Int32) (a : Nat) (y : Int32) (hG : GB (B 0)) (h6 : B 0 6 = ht (B 0)) (hy : B 0 12 8 = nI (cy (B 0))) (hy20 : cy (B 0) ≤ 20) (ha8 : a < 8) (hyy : 1 ≤ y.toInt ∧ y.toInt ≤ 99) : CE (U := (Nat → Int32)) l yX7_does wsX7_does ({ frames := 7, cells := 0, slots := 0, locals := 166 }) D (tyL cI cZ cS cJ) [.ref m0] (List.flatten [mdO m0 m1 m2 m3 th sv kp ln ca 102 (nI a) y hs, arC cI m1 1170 (enc B), arC cI m2 60 T, arC cI m3 8 h]) (fun u => True) (fun u => none) (fun u => List.flatten [mdO m0 m1 m2 m3 th sv kp ln ca 102 (nI a) y hs, arC cI m1 1170 (enc (uA B 0 (nxt (B 0) 102 a y))), arC cI m2 60 T, arC cI m3 8 u]) 0 0 := by
  refine CE_void (cc := cX7_does) (maxL := 1) (by decide) rfl (Nat.le_of_ble_eq_true rfl) ?_
  intro p e s m below meth c A ls Q X hnm hK hP hD hS hA hl hend
  have X : CallFix p m c cX7_does 1 s ([.ref m0] : List Value).toArray wsX7_does RX7 := X
  obtain ⟨hx, hb, hml, hown, hts⟩ := id X
  have hl : lv_has ls 1 [(0, .ref m0)] := hl
  have hinX7 : ∀ w ∈ u_ws RX7 TX7 12, w ∈ wsX7_does := by decide +kernel
  refine lv_aload_n hx hb dX7_does_0 rfl (lv_at hl 0 rfl) ?_
  refine va_get (D := D) (ci := 7) (v := .int 102) (C := RX7) (T := TX7) (N := 12) hx hb hts hinX7 hown hK hP 0 rfl rfl 7 (by decide) (hts (.fieldLink RX7 165 "RibbonBalloonsModel" "letter" "I") (by decide +kernel)) (fun _ h9 => h9) rfl dX7_does_1 ?_
  refine lv_tableIn (tgt := 100) hx hb dX7_does_4 (by decide) (by decide) rfl (by decide) ?_
  refine lv_aload_n hx hb dX7_does_100 rfl (lv_at hl 0 rfl) ?_
  refine lv_aload_n hx hb dX7_does_101 rfl (lv_at hl 0 rfl) ?_
  refine va_get (D := D) (ci := 7) (v := .int (nI a)) (C := RX7) (T := TX7) (N := 12) hx hb hts hinX7 hown hK hP 0 rfl rfl 8 (by decide) (hts (.fieldLink RX7 174 "RibbonBalloonsModel" "first" "I") (by decide +kernel)) (fun _ h9 => h9) rfl dX7_does_102 ?_
  refine lv_aload_n hx hb dX7_does_105 rfl (lv_at hl 0 rfl) ?_
  refine va_get (D := D) (ci := 7) (v := .int y) (C := RX7) (T := TX7) (N := 12) hx hb hts hinX7 hown hK hP 0 rfl rfl 9 (by decide) (hts (.fieldLink RX7 177 "RibbonBalloonsModel" "second" "I") (by decide +kernel)) (fun _ h9 => h9) rfl dX7_does_106 ?_
  refine kcallV (As := [.int (nI a), .int y]) (rest := []) (Wn := [mdO m0 m1 m2 m3 th sv kp ln ca 102 (nI a) y hs, arC cI m1 1170 (enc (uA B 0 (u2 (u2 (B 0) 0 a (B 0 0 a + y)) 12 1 ((u2 (B 0) 0 a (B 0 0 a + y)) 12 1 + y)))), arC cI m2 60 T, arC cI m3 8 h]) X (c_X7_fills l D cI cZ cS cJ m0 m1 m2 m3 th sv kp ln ca 102 (nI a) y hs B T h a y (by omega)) (cwV 2 hts gX7_does_X7_fills rfl rfl rfl (by decide +kernel) ⟨Nat.le_of_ble_eq_true rfl, Nat.le_of_ble_eq_true rfl⟩) hK hP hD hS hA [0, 1, 2, 3] rfl (by decide +kernel) rfl rfl rfl 0 7 rfl rfl rfl hl.1 rfl (Nat.le_of_ble_eq_true rfl) dX7_does_109 ⟨Nat.le_of_ble_eq_true rfl, Nat.le_of_ble_eq_true rfl⟩ (fun H locs hP hD hS => ?_)
  refine lv_pop hx hb dX7_does_112 rfl ?_
  refine lv_goto (tgt := 189) hx hb dX7_does_113 (by decide) ?_
  obtain ⟨hP, hD⟩ := PD_cg hP hD 1 (enc (uA B 0 (nxt (B 0) 102 a y))) rfl (fun j _ => enc_me B (filS (B 0) a y) j) (wn := List.flatten [mdO m0 m1 m2 m3 th sv kp ln ca 102 (nI a) y hs, arC cI m1 1170 (enc (uA B 0 (nxt (B 0) 102 a y))), arC cI m2 60 T, arC cI m3 8 h]) rfl
  exact hend (h) _ _ _ _ trivial hP hD hS dX7_does_189

set_option maxHeartbeats 4000000 in
set_option maxRecDepth 100000 in
theorem c_X7_does118 (l : Launch) (D : va_G) (cI cZ cS cJ : ClassId) (m0 : Nat) (m1 : Nat) (m2 : Nat) (m3 : Nat) (th : Int32) (sv : Int32) (kp : Int32) (ln : Int32) (ca : Int32) (hs : Int64) (B : Nat → Nat → Nat → Int32) (T : Nat → Int32) (h : Nat → Int32) (a : Nat) (y : Int32) (hG : GB (B 0)) (h6 : B 0 6 = ht (B 0)) (hy : B 0 12 8 = nI (cy (B 0))) (hy20 : cy (B 0) ≤ 20) (ha8 : a < 8) (hyy : 1 ≤ y.toInt ∧ y.toInt ≤ 99) : CE (U := (Nat → Int32)) l yX7_does wsX7_does ({ frames := 7, cells := 0, slots := 0, locals := 166 }) D (tyL cI cZ cS cJ) [.ref m0] (List.flatten [mdO m0 m1 m2 m3 th sv kp ln ca 118 (nI a) y hs, arC cI m1 1170 (enc B), arC cI m2 60 T, arC cI m3 8 h]) (fun u => True) (fun u => none) (fun u => List.flatten [mdO m0 m1 m2 m3 th sv kp ln ca 118 (nI a) y hs, arC cI m1 1170 (enc (uA B 0 (nxt (B 0) 118 a y))), arC cI m2 60 T, arC cI m3 8 u]) 0 0 := by
  refine CE_void (cc := cX7_does) (maxL := 1) (by decide) rfl (Nat.le_of_ble_eq_true rfl) ?_
  intro p e s m below meth c A ls Q X hnm hK hP hD hS hA hl hend
  have X : CallFix p m c cX7_does 1 s ([.ref m0] : List Value).toArray wsX7_does RX7 := X
  obtain ⟨hx, hb, hml, hown, hts⟩ := id X
  have hl : lv_has ls 1 [(0, .ref m0)] := hl
  have hinX7 : ∀ w ∈ u_ws RX7 TX7 12, w ∈ wsX7_does := by decide +kernel
  refine lv_aload_n hx hb dX7_does_0 rfl (lv_at hl 0 rfl) ?_
  refine va_get (D := D) (ci := 7) (v := .int 118) (C := RX7) (T := TX7) (N := 12) hx hb hts hinX7 hown hK hP 0 rfl rfl 7 (by decide) (hts (.fieldLink RX7 165 "RibbonBalloonsModel" "letter" "I") (by decide +kernel)) (fun _ h9 => h9) rfl dX7_does_1 ?_
  refine lv_tableIn (tgt := 116) hx hb dX7_does_4 (by decide) (by decide) rfl (by decide) ?_
  refine lv_aload_n hx hb dX7_does_116 rfl (lv_at hl 0 rfl) ?_
  refine lv_aload_n hx hb dX7_does_117 rfl (lv_at hl 0 rfl) ?_
  refine va_get (D := D) (ci := 7) (v := .int (nI a)) (C := RX7) (T := TX7) (N := 12) hx hb hts hinX7 hown hK hP 0 rfl rfl 8 (by decide) (hts (.fieldLink RX7 174 "RibbonBalloonsModel" "first" "I") (by decide +kernel)) (fun _ h9 => h9) rfl dX7_does_118 ?_
  refine lv_aload_n hx hb dX7_does_121 rfl (lv_at hl 0 rfl) ?_
  refine va_get (D := D) (ci := 7) (v := .int y) (C := RX7) (T := TX7) (N := 12) hx hb hts hinX7 hown hK hP 0 rfl rfl 9 (by decide) (hts (.fieldLink RX7 177 "RibbonBalloonsModel" "second" "I") (by decide +kernel)) (fun _ h9 => h9) rfl dX7_does_122 ?_
  refine kcallV (As := [.int (nI a), .int y]) (rest := []) (Wn := [mdO m0 m1 m2 m3 th sv kp ln ca 118 (nI a) y hs, arC cI m1 1170 (enc (uA B 0 (u2 (u2 (B 0) 0 a (B 0 0 a + -y)) 12 3 ((u2 (B 0) 0 a (B 0 0 a + -y)) 12 3 + y)))), arC cI m2 60 T, arC cI m3 8 (ht (u2 (u2 (B 0) 0 a (B 0 0 a + -y)) 12 3 ((u2 (B 0) 0 a (B 0 0 a + -y)) 12 3 + y)))]) X (c_X7_vents l D cI cZ cS cJ m0 m1 m2 m3 th sv kp ln ca 118 (nI a) y hs B T h a y (by omega) (GB_T hG)) (cwV 2 hts gX7_does_X7_vents rfl rfl rfl (by decide +kernel) ⟨Nat.le_of_ble_eq_true rfl, Nat.le_of_ble_eq_true rfl⟩) hK hP hD hS hA [0, 1, 2, 3] rfl (by decide +kernel) rfl rfl rfl 0 7 rfl rfl rfl hl.1 rfl (Nat.le_of_ble_eq_true rfl) dX7_does_125 ⟨Nat.le_of_ble_eq_true rfl, Nat.le_of_ble_eq_true rfl⟩ (fun H locs hP hD hS => ?_)
  refine lv_pop hx hb dX7_does_128 rfl ?_
  refine lv_goto (tgt := 189) hx hb dX7_does_129 (by decide) ?_
  obtain ⟨hP, hD⟩ := PD_cg hP hD 1 (enc (uA B 0 (nxt (B 0) 118 a y))) rfl (fun j _ => by rw [ven_e]; exact enc_me B (venS (B 0) a y) j) (wn := List.flatten [mdO m0 m1 m2 m3 th sv kp ln ca 118 (nI a) y hs, arC cI m1 1170 (enc (uA B 0 (nxt (B 0) 118 a y))), arC cI m2 60 T, arC cI m3 8 (ht (u2 (u2 (B 0) 0 a (B 0 0 a + -y)) 12 3 ((u2 (B 0) 0 a (B 0 0 a + -y)) 12 3 + y)))]) rfl
  exact hend (ht (u2 (u2 (B 0) 0 a (B 0 0 a + -y)) 12 3 ((u2 (B 0) 0 a (B 0 0 a + -y)) 12 3 + y))) _ _ _ _ trivial hP hD hS dX7_does_189

set_option maxHeartbeats 4000000 in
set_option maxRecDepth 100000 in
theorem c_X7_does100 (l : Launch) (D : va_G) (cI cZ cS cJ : ClassId) (m0 : Nat) (m1 : Nat) (m2 : Nat) (m3 : Nat) (th : Int32) (sv : Int32) (kp : Int32) (ln : Int32) (ca : Int32) (hs : Int64) (B : Nat → Nat → Nat → Int32) (T : Nat → Int32) (h : Nat → Int32) (a : Nat) (y : Int32) (hG : GB (B 0)) (h6 : B 0 6 = ht (B 0)) (hy : B 0 12 8 = nI (cy (B 0))) (hy20 : cy (B 0) ≤ 20) (ha8 : a < 8) : CE (U := (Nat → Int32)) l yX7_does wsX7_does ({ frames := 7, cells := 0, slots := 0, locals := 166 }) D (tyL cI cZ cS cJ) [.ref m0] (List.flatten [mdO m0 m1 m2 m3 th sv kp ln ca 100 (nI a) y hs, arC cI m1 1170 (enc B), arC cI m2 60 T, arC cI m3 8 h]) (fun u => True) (fun u => none) (fun u => List.flatten [mdO m0 m1 m2 m3 th sv kp ln ca 100 (nI a) y hs, arC cI m1 1170 (enc (uA B 0 (nxt (B 0) 100 a y))), arC cI m2 60 T, arC cI m3 8 u]) 0 0 := by
  refine CE_void (cc := cX7_does) (maxL := 1) (by decide) rfl (Nat.le_of_ble_eq_true rfl) ?_
  intro p e s m below meth c A ls Q X hnm hK hP hD hS hA hl hend
  have X : CallFix p m c cX7_does 1 s ([.ref m0] : List Value).toArray wsX7_does RX7 := X
  obtain ⟨hx, hb, hml, hown, hts⟩ := id X
  have hl : lv_has ls 1 [(0, .ref m0)] := hl
  have hinX7 : ∀ w ∈ u_ws RX7 TX7 12, w ∈ wsX7_does := by decide +kernel
  refine lv_aload_n hx hb dX7_does_0 rfl (lv_at hl 0 rfl) ?_
  refine va_get (D := D) (ci := 7) (v := .int 100) (C := RX7) (T := TX7) (N := 12) hx hb hts hinX7 hown hK hP 0 rfl rfl 7 (by decide) (hts (.fieldLink RX7 165 "RibbonBalloonsModel" "letter" "I") (by decide +kernel)) (fun _ h9 => h9) rfl dX7_does_1 ?_
  refine lv_tableIn (tgt := 132) hx hb dX7_does_4 (by decide) (by decide) rfl (by decide) ?_
  refine lv_aload_n hx hb dX7_does_132 rfl (lv_at hl 0 rfl) ?_
  refine lv_aload_n hx hb dX7_does_133 rfl (lv_at hl 0 rfl) ?_
  refine va_get (D := D) (ci := 7) (v := .int (nI a)) (C := RX7) (T := TX7) (N := 12) hx hb hts hinX7 hown hK hP 0 rfl rfl 8 (by decide) (hts (.fieldLink RX7 174 "RibbonBalloonsModel" "first" "I") (by decide +kernel)) (fun _ h9 => h9) rfl dX7_does_134 ?_
  refine kcallV (As := [.int (nI a)]) (rest := []) (Wn := [mdO m0 m1 m2 m3 th sv kp ln ca 100 (nI a) y hs, arC cI m1 1170 (enc (uA B 0 (u2 (u2 (B 0) 1 a (B 0 1 a + (-1))) 12 5 ((u2 (B 0) 1 a (B 0 1 a + (-1))) 12 5 + 1)))), arC cI m2 60 T, arC cI m3 8 (ht (u2 (u2 (B 0) 1 a (B 0 1 a + (-1))) 12 5 ((u2 (B 0) 1 a (B 0 1 a + (-1))) 12 5 + 1)))]) X (c_X7_drops l D cI cZ cS cJ m0 m1 m2 m3 th sv kp ln ca 100 (nI a) y hs B T h a (by omega) (GB_T hG)) (cwV 1 hts gX7_does_X7_drops rfl rfl rfl (by decide +kernel) ⟨Nat.le_of_ble_eq_true rfl, Nat.le_of_ble_eq_true rfl⟩) hK hP hD hS hA [0, 1, 2, 3] rfl (by decide +kernel) rfl rfl rfl 0 7 rfl rfl rfl hl.1 rfl (Nat.le_of_ble_eq_true rfl) dX7_does_137 ⟨Nat.le_of_ble_eq_true rfl, Nat.le_of_ble_eq_true rfl⟩ (fun H locs hP hD hS => ?_)
  refine lv_pop hx hb dX7_does_140 rfl ?_
  refine lv_goto (tgt := 189) hx hb dX7_does_141 (by decide) ?_
  obtain ⟨hP, hD⟩ := PD_cg hP hD 1 (enc (uA B 0 (nxt (B 0) 100 a y))) rfl (fun j _ => by rw [dro_e]; exact enc_me B (droS (B 0) a) j) (wn := List.flatten [mdO m0 m1 m2 m3 th sv kp ln ca 100 (nI a) y hs, arC cI m1 1170 (enc (uA B 0 (nxt (B 0) 100 a y))), arC cI m2 60 T, arC cI m3 8 (ht (u2 (u2 (B 0) 1 a (B 0 1 a + (-1))) 12 5 ((u2 (B 0) 1 a (B 0 1 a + (-1))) 12 5 + 1)))]) rfl
  exact hend (ht (u2 (u2 (B 0) 1 a (B 0 1 a + (-1))) 12 5 ((u2 (B 0) 1 a (B 0 1 a + (-1))) 12 5 + 1))) _ _ _ _ trivial hP hD hS dX7_does_189

set_option maxHeartbeats 4000000 in
set_option maxRecDepth 100000 in
theorem c_X7_does112 (l : Launch) (D : va_G) (cI cZ cS cJ : ClassId) (m0 : Nat) (m1 : Nat) (m2 : Nat) (m3 : Nat) (th : Int32) (sv : Int32) (kp : Int32) (ln : Int32) (ca : Int32) (hs : Int64) (B : Nat → Nat → Nat → Int32) (T : Nat → Int32) (h : Nat → Int32) (a : Nat) (y : Int32) (hG : GB (B 0)) (h6 : B 0 6 = ht (B 0)) (hy : B 0 12 8 = nI (cy (B 0))) (hy20 : cy (B 0) ≤ 20) (ha8 : a < 8) : CE (U := (Nat → Int32)) l yX7_does wsX7_does ({ frames := 7, cells := 0, slots := 0, locals := 166 }) D (tyL cI cZ cS cJ) [.ref m0] (List.flatten [mdO m0 m1 m2 m3 th sv kp ln ca 112 (nI a) y hs, arC cI m1 1170 (enc B), arC cI m2 60 T, arC cI m3 8 h]) (fun u => True) (fun u => none) (fun u => List.flatten [mdO m0 m1 m2 m3 th sv kp ln ca 112 (nI a) y hs, arC cI m1 1170 (enc (uA B 0 (nxt (B 0) 112 a y))), arC cI m2 60 T, arC cI m3 8 u]) 0 0 := by
  refine CE_void (cc := cX7_does) (maxL := 1) (by decide) rfl (Nat.le_of_ble_eq_true rfl) ?_
  intro p e s m below meth c A ls Q X hnm hK hP hD hS hA hl hend
  have X : CallFix p m c cX7_does 1 s ([.ref m0] : List Value).toArray wsX7_does RX7 := X
  obtain ⟨hx, hb, hml, hown, hts⟩ := id X
  have hl : lv_has ls 1 [(0, .ref m0)] := hl
  have hinX7 : ∀ w ∈ u_ws RX7 TX7 12, w ∈ wsX7_does := by decide +kernel
  refine lv_aload_n hx hb dX7_does_0 rfl (lv_at hl 0 rfl) ?_
  refine va_get (D := D) (ci := 7) (v := .int 112) (C := RX7) (T := TX7) (N := 12) hx hb hts hinX7 hown hK hP 0 rfl rfl 7 (by decide) (hts (.fieldLink RX7 165 "RibbonBalloonsModel" "letter" "I") (by decide +kernel)) (fun _ h9 => h9) rfl dX7_does_1 ?_
  refine lv_tableIn (tgt := 144) hx hb dX7_does_4 (by decide) (by decide) rfl (by decide) ?_
  refine lv_aload_n hx hb dX7_does_144 rfl (lv_at hl 0 rfl) ?_
  refine lv_aload_n hx hb dX7_does_145 rfl (lv_at hl 0 rfl) ?_
  refine va_get (D := D) (ci := 7) (v := .int (nI a)) (C := RX7) (T := TX7) (N := 12) hx hb hts hinX7 hown hK hP 0 rfl rfl 8 (by decide) (hts (.fieldLink RX7 174 "RibbonBalloonsModel" "first" "I") (by decide +kernel)) (fun _ h9 => h9) rfl dX7_does_146 ?_
  refine kcallV (As := [.int (nI a)]) (rest := []) (Wn := [mdO m0 m1 m2 m3 th sv kp ln ca 112 (nI a) y hs, arC cI m1 1170 (enc (uA B 0 (u2 (B 0) 1 a ((B 0 1 a) + 1)))), arC cI m2 60 T, arC cI m3 8 h]) X (c_X7_puts l D cI cZ cS cJ m0 m1 m2 m3 th sv kp ln ca 112 (nI a) y hs B T h a (by omega)) (cwV 1 hts gX7_does_X7_puts rfl rfl rfl (by decide +kernel) ⟨Nat.le_of_ble_eq_true rfl, Nat.le_of_ble_eq_true rfl⟩) hK hP hD hS hA [0, 1, 2, 3] rfl (by decide +kernel) rfl rfl rfl 0 7 rfl rfl rfl hl.1 rfl (Nat.le_of_ble_eq_true rfl) dX7_does_149 ⟨Nat.le_of_ble_eq_true rfl, Nat.le_of_ble_eq_true rfl⟩ (fun H locs hP hD hS => ?_)
  refine lv_pop hx hb dX7_does_152 rfl ?_
  refine lv_goto (tgt := 189) hx hb dX7_does_153 (by decide) ?_
  obtain ⟨hP, hD⟩ := PD_cg hP hD 1 (enc (uA B 0 (nxt (B 0) 112 a y))) rfl (fun j _ => enc_me B (putS (B 0) a) j) (wn := List.flatten [mdO m0 m1 m2 m3 th sv kp ln ca 112 (nI a) y hs, arC cI m1 1170 (enc (uA B 0 (nxt (B 0) 112 a y))), arC cI m2 60 T, arC cI m3 8 h]) rfl
  exact hend (h) _ _ _ _ trivial hP hD hS dX7_does_189

set_option maxHeartbeats 4000000 in
set_option maxRecDepth 100000 in
theorem c_X7_does99 (l : Launch) (D : va_G) (cI cZ cS cJ : ClassId) (m0 : Nat) (m1 : Nat) (m2 : Nat) (m3 : Nat) (th : Int32) (sv : Int32) (kp : Int32) (ln : Int32) (ca : Int32) (hs : Int64) (B : Nat → Nat → Nat → Int32) (T : Nat → Int32) (h : Nat → Int32) (a : Nat) (y : Int32) (hG : GB (B 0)) (h6 : B 0 6 = ht (B 0)) (hy : B 0 12 8 = nI (cy (B 0))) (hy20 : cy (B 0) ≤ 20) (ha7 : a < 7) : CE (U := (Nat → Int32)) l yX7_does wsX7_does ({ frames := 7, cells := 0, slots := 0, locals := 166 }) D (tyL cI cZ cS cJ) [.ref m0] (List.flatten [mdO m0 m1 m2 m3 th sv kp ln ca 99 (nI a) y hs, arC cI m1 1170 (enc B), arC cI m2 60 T, arC cI m3 8 h]) (fun u => True) (fun u => none) (fun u => List.flatten [mdO m0 m1 m2 m3 th sv kp ln ca 99 (nI a) y hs, arC cI m1 1170 (enc (uA B 0 (nxt (B 0) 99 a y))), arC cI m2 60 T, arC cI m3 8 u]) 0 0 := by
  refine CE_void (cc := cX7_does) (maxL := 1) (by decide) rfl (Nat.le_of_ble_eq_true rfl) ?_
  intro p e s m below meth c A ls Q X hnm hK hP hD hS hA hl hend
  have X : CallFix p m c cX7_does 1 s ([.ref m0] : List Value).toArray wsX7_does RX7 := X
  obtain ⟨hx, hb, hml, hown, hts⟩ := id X
  have hl : lv_has ls 1 [(0, .ref m0)] := hl
  have hinX7 : ∀ w ∈ u_ws RX7 TX7 12, w ∈ wsX7_does := by decide +kernel
  refine lv_aload_n hx hb dX7_does_0 rfl (lv_at hl 0 rfl) ?_
  refine va_get (D := D) (ci := 7) (v := .int 99) (C := RX7) (T := TX7) (N := 12) hx hb hts hinX7 hown hK hP 0 rfl rfl 7 (by decide) (hts (.fieldLink RX7 165 "RibbonBalloonsModel" "letter" "I") (by decide +kernel)) (fun _ h9 => h9) rfl dX7_does_1 ?_
  refine lv_tableIn (tgt := 156) hx hb dX7_does_4 (by decide) (by decide) rfl (by decide) ?_
  refine lv_aload_n hx hb dX7_does_156 rfl (lv_at hl 0 rfl) ?_
  refine lv_aload_n hx hb dX7_does_157 rfl (lv_at hl 0 rfl) ?_
  refine va_get (D := D) (ci := 7) (v := .int (nI a)) (C := RX7) (T := TX7) (N := 12) hx hb hts hinX7 hown hK hP 0 rfl rfl 8 (by decide) (hts (.fieldLink RX7 174 "RibbonBalloonsModel" "first" "I") (by decide +kernel)) (fun _ h9 => h9) rfl dX7_does_158 ?_
  refine kcallVE (As := [.int (nI a)]) (rest := []) (Wn := fun u => [mdO m0 m1 m2 m3 th sv kp ln ca 99 (nI a) y hs, arC cI m1 1170 (enc (uA B 0 (mended (cutS (B 0) a)))), arC cI m2 60 T, arC cI m3 8 u]) X (c_X7_cuts l D cI cZ cS cJ m0 m1 m2 m3 th sv kp ln ca 99 (nI a) y hs B T h a (by omega) (GB_T hG)) (cwV 1 hts gX7_does_X7_cuts rfl rfl rfl (by decide +kernel) ⟨Nat.le_of_ble_eq_true rfl, Nat.le_of_ble_eq_true rfl⟩) hK hP hD hS hA [0, 1, 2, 3] rfl (by decide +kernel) (fun _ => rfl) (fun _ => rfl) (fun _ => rfl) 0 7 rfl rfl rfl hl.1 rfl (Nat.le_of_ble_eq_true rfl) dX7_does_161 ⟨Nat.le_of_ble_eq_true rfl, Nat.le_of_ble_eq_true rfl⟩ (fun h9_1 H locs hu hP hD hS => ?_)
  have hP : va_P D vwCl (List.flatten [mdO m0 m1 m2 m3 th sv kp ln ca 99 (nI a) y hs, arC cI m1 1170 (enc (uA B 0 (mended (cutS (B 0) a)))), arC cI m2 60 T, arC cI m3 8 h9_1]) _ := hP
  have hD : va_D A (List.flatten [mdO m0 m1 m2 m3 th sv kp ln ca 99 (nI a) y hs, arC cI m1 1170 (enc (uA B 0 (mended (cutS (B 0) a)))), arC cI m2 60 T, arC cI m3 8 h9_1]) := hD
  refine lv_pop hx hb dX7_does_164 rfl ?_
  refine lv_goto (tgt := 189) hx hb dX7_does_165 (by decide) ?_
  obtain ⟨hP, hD⟩ := PD_cg hP hD 1 (enc (uA B 0 (nxt (B 0) 99 a y))) rfl (fun _ _ => rfl) (wn := List.flatten [mdO m0 m1 m2 m3 th sv kp ln ca 99 (nI a) y hs, arC cI m1 1170 (enc (uA B 0 (nxt (B 0) 99 a y))), arC cI m2 60 T, arC cI m3 8 h9_1]) rfl
  exact hend (h9_1) _ _ _ _ trivial hP hD hS dX7_does_189

set_option maxHeartbeats 4000000 in
set_option maxRecDepth 100000 in
theorem c_X7_does110 (l : Launch) (D : va_G) (cI cZ cS cJ : ClassId) (m0 : Nat) (m1 : Nat) (m2 : Nat) (m3 : Nat) (th : Int32) (sv : Int32) (kp : Int32) (ln : Int32) (ca : Int32) (hs : Int64) (B : Nat → Nat → Nat → Int32) (T : Nat → Int32) (h : Nat → Int32) (a : Nat) (y : Int32) (hG : GB (B 0)) (h6 : B 0 6 = ht (B 0)) (hy : B 0 12 8 = nI (cy (B 0))) (hy20 : cy (B 0) ≤ 20) (ha8 : a < 8) : CE (U := (Nat → Int32)) l yX7_does wsX7_does ({ frames := 7, cells := 0, slots := 0, locals := 166 }) D (tyL cI cZ cS cJ) [.ref m0] (List.flatten [mdO m0 m1 m2 m3 th sv kp ln ca 110 (nI a) y hs, arC cI m1 1170 (enc B), arC cI m2 60 T, arC cI m3 8 h]) (fun u => True) (fun u => none) (fun u => List.flatten [mdO m0 m1 m2 m3 th sv kp ln ca 110 (nI a) y hs, arC cI m1 1170 (enc (uA B 0 (nxt (B 0) 110 a y))), arC cI m2 60 T, arC cI m3 8 u]) 0 0 := by
  refine CE_void (cc := cX7_does) (maxL := 1) (by decide) rfl (Nat.le_of_ble_eq_true rfl) ?_
  intro p e s m below meth c A ls Q X hnm hK hP hD hS hA hl hend
  have X : CallFix p m c cX7_does 1 s ([.ref m0] : List Value).toArray wsX7_does RX7 := X
  obtain ⟨hx, hb, hml, hown, hts⟩ := id X
  have hl : lv_has ls 1 [(0, .ref m0)] := hl
  have hinX7 : ∀ w ∈ u_ws RX7 TX7 12, w ∈ wsX7_does := by decide +kernel
  refine lv_aload_n hx hb dX7_does_0 rfl (lv_at hl 0 rfl) ?_
  refine va_get (D := D) (ci := 7) (v := .int 110) (C := RX7) (T := TX7) (N := 12) hx hb hts hinX7 hown hK hP 0 rfl rfl 7 (by decide) (hts (.fieldLink RX7 165 "RibbonBalloonsModel" "letter" "I") (by decide +kernel)) (fun _ h9 => h9) rfl dX7_does_1 ?_
  refine lv_tableIn (tgt := 168) hx hb dX7_does_4 (by decide) (by decide) rfl (by decide) ?_
  refine lv_aload_n hx hb dX7_does_168 rfl (lv_at hl 0 rfl) ?_
  refine lv_aload_n hx hb dX7_does_169 rfl (lv_at hl 0 rfl) ?_
  refine va_get (D := D) (ci := 7) (v := .int (nI a)) (C := RX7) (T := TX7) (N := 12) hx hb hts hinX7 hown hK hP 0 rfl rfl 8 (by decide) (hts (.fieldLink RX7 174 "RibbonBalloonsModel" "first" "I") (by decide +kernel)) (fun _ h9 => h9) rfl dX7_does_170 ?_
  refine kcallVE (As := [.int (nI a)]) (rest := []) (Wn := fun u => [mdO m0 m1 m2 m3 th sv kp ln ca 110 (nI a) y hs, arC cI m1 1170 (enc (uA B 0 (notS (B 0) (cy (B 0)) a))), arC cI m2 60 T, arC cI m3 8 u]) X (c_X7_notes l D cI cZ cS cJ m0 m1 m2 m3 th sv kp ln ca 110 (nI a) y hs B T h (cy (B 0)) a hy hy20 (by omega) hG h6) (cwV 1 hts gX7_does_X7_notes rfl rfl rfl (by decide +kernel) ⟨Nat.le_of_ble_eq_true rfl, Nat.le_of_ble_eq_true rfl⟩) hK hP hD hS hA [0, 1, 2, 3] rfl (by decide +kernel) (fun _ => rfl) (fun _ => rfl) (fun _ => rfl) 0 7 rfl rfl rfl hl.1 rfl (Nat.le_of_ble_eq_true rfl) dX7_does_173 ⟨Nat.le_of_ble_eq_true rfl, Nat.le_of_ble_eq_true rfl⟩ (fun h9_1 H locs hu hP hD hS => ?_)
  have hP : va_P D vwCl (List.flatten [mdO m0 m1 m2 m3 th sv kp ln ca 110 (nI a) y hs, arC cI m1 1170 (enc (uA B 0 (notS (B 0) (cy (B 0)) a))), arC cI m2 60 T, arC cI m3 8 h9_1]) _ := hP
  have hD : va_D A (List.flatten [mdO m0 m1 m2 m3 th sv kp ln ca 110 (nI a) y hs, arC cI m1 1170 (enc (uA B 0 (notS (B 0) (cy (B 0)) a))), arC cI m2 60 T, arC cI m3 8 h9_1]) := hD
  refine lv_pop hx hb dX7_does_176 rfl ?_
  refine lv_goto (tgt := 189) hx hb dX7_does_177 (by decide) ?_
  obtain ⟨hP, hD⟩ := PD_cg hP hD 1 (enc (uA B 0 (nxt (B 0) 110 a y))) rfl (fun _ _ => rfl) (wn := List.flatten [mdO m0 m1 m2 m3 th sv kp ln ca 110 (nI a) y hs, arC cI m1 1170 (enc (uA B 0 (nxt (B 0) 110 a y))), arC cI m2 60 T, arC cI m3 8 h9_1]) rfl
  exact hend (h9_1) _ _ _ _ trivial hP hD hS dX7_does_189

set_option maxHeartbeats 4000000 in
set_option maxRecDepth 100000 in
theorem c_X7_does104 (l : Launch) (D : va_G) (cI cZ cS cJ : ClassId) (m0 : Nat) (m1 : Nat) (m2 : Nat) (m3 : Nat) (th : Int32) (sv : Int32) (kp : Int32) (ln : Int32) (ca : Int32) (hs : Int64) (B : Nat → Nat → Nat → Int32) (T : Nat → Int32) (h : Nat → Int32) (a : Nat) (y : Int32) (hG : GB (B 0)) (h6 : B 0 6 = ht (B 0)) (hy : B 0 12 8 = nI (cy (B 0))) (hy20 : cy (B 0) ≤ 20) (ha : 1 ≤ a ∧ a ≤ 99) : CE (U := (Nat → Int32)) l yX7_does wsX7_does ({ frames := 7, cells := 0, slots := 0, locals := 166 }) D (tyL cI cZ cS cJ) [.ref m0] (List.flatten [mdO m0 m1 m2 m3 th sv kp ln ca 104 (nI a) y hs, arC cI m1 1170 (enc B), arC cI m2 60 T, arC cI m3 8 h]) (fun u => True) (fun u => none) (fun u => List.flatten [mdO m0 m1 m2 m3 th sv kp ln ca 104 (nI a) y hs, arC cI m1 1170 (enc (uA B 0 (nxt (B 0) 104 a y))), arC cI m2 60 T, arC cI m3 8 u]) 0 0 := by
  refine CE_void (cc := cX7_does) (maxL := 1) (by decide) rfl (Nat.le_of_ble_eq_true rfl) ?_
  intro p e s m below meth c A ls Q X hnm hK hP hD hS hA hl hend
  have X : CallFix p m c cX7_does 1 s ([.ref m0] : List Value).toArray wsX7_does RX7 := X
  obtain ⟨hx, hb, hml, hown, hts⟩ := id X
  have hl : lv_has ls 1 [(0, .ref m0)] := hl
  have hinX7 : ∀ w ∈ u_ws RX7 TX7 12, w ∈ wsX7_does := by decide +kernel
  refine lv_aload_n hx hb dX7_does_0 rfl (lv_at hl 0 rfl) ?_
  refine va_get (D := D) (ci := 7) (v := .int 104) (C := RX7) (T := TX7) (N := 12) hx hb hts hinX7 hown hK hP 0 rfl rfl 7 (by decide) (hts (.fieldLink RX7 165 "RibbonBalloonsModel" "letter" "I") (by decide +kernel)) (fun _ h9 => h9) rfl dX7_does_1 ?_
  refine lv_tableIn (tgt := 180) hx hb dX7_does_4 (by decide) (by decide) rfl (by decide) ?_
  refine lv_aload_n hx hb dX7_does_180 rfl (lv_at hl 0 rfl) ?_
  refine lv_aload_n hx hb dX7_does_181 rfl (lv_at hl 0 rfl) ?_
  refine va_get (D := D) (ci := 7) (v := .int (nI a)) (C := RX7) (T := TX7) (N := 12) hx hb hts hinX7 hown hK hP 0 rfl rfl 8 (by decide) (hts (.fieldLink RX7 174 "RibbonBalloonsModel" "first" "I") (by decide +kernel)) (fun _ h9 => h9) rfl dX7_does_182 ?_
  refine kcallVE (As := [.int (nI a)]) (rest := []) (Wn := fun u => [mdO m0 m1 m2 m3 th sv kp ln ca 104 (nI a) y hs, arC cI m1 1170 (enc (uA B 0 (hrs (B 0) a))), arC cI m2 60 T, arC cI m3 8 u]) X (c_X7_passes l D cI cZ cS cJ m0 m1 m2 m3 th sv kp ln ca 104 (nI a) y hs B T h a (by omega) hG) (cwV 1 hts gX7_does_X7_passes rfl rfl rfl (by decide +kernel) ⟨Nat.le_of_ble_eq_true rfl, Nat.le_of_ble_eq_true rfl⟩) hK hP hD hS hA [0, 1, 2, 3] rfl (by decide +kernel) (fun _ => rfl) (fun _ => rfl) (fun _ => rfl) 0 7 rfl rfl rfl hl.1 rfl (Nat.le_of_ble_eq_true rfl) dX7_does_185 ⟨Nat.le_of_ble_eq_true rfl, Nat.le_of_ble_eq_true rfl⟩ (fun h9_1 H locs hu hP hD hS => ?_)
  have hP : va_P D vwCl (List.flatten [mdO m0 m1 m2 m3 th sv kp ln ca 104 (nI a) y hs, arC cI m1 1170 (enc (uA B 0 (hrs (B 0) a))), arC cI m2 60 T, arC cI m3 8 h9_1]) _ := hP
  have hD : va_D A (List.flatten [mdO m0 m1 m2 m3 th sv kp ln ca 104 (nI a) y hs, arC cI m1 1170 (enc (uA B 0 (hrs (B 0) a))), arC cI m2 60 T, arC cI m3 8 h9_1]) := hD
  refine lv_pop hx hb dX7_does_188 rfl ?_
  obtain ⟨hP, hD⟩ := PD_cg hP hD 1 (enc (uA B 0 (nxt (B 0) 104 a y))) rfl (fun _ _ => rfl) (wn := List.flatten [mdO m0 m1 m2 m3 th sv kp ln ca 104 (nI a) y hs, arC cI m1 1170 (enc (uA B 0 (nxt (B 0) 104 a y))), arC cI m2 60 T, arC cI m3 8 h9_1]) rfl
  exact hend (h9_1) _ _ _ _ trivial hP hD hS dX7_does_189

set_option maxHeartbeats 4000000 in
set_option maxRecDepth 100000 in
theorem c_X7_does (l : Launch) (D : va_G) (cI cZ cS cJ : ClassId) (m0 : Nat) (m1 : Nat) (m2 : Nat) (m3 : Nat) (th : Int32) (sv : Int32) (kp : Int32) (ln : Int32) (ca : Int32) (hs : Int64) (B : Nat → Nat → Nat → Int32) (T : Nat → Int32) (h : Nat → Int32) (lt : Int32) (a : Nat) (y : Int32) (hG : GB (B 0)) (h6 : B 0 6 = ht (B 0)) (hy : B 0 12 8 = nI (cy (B 0))) (hy20 : cy (B 0) ≤ 20) (hp : PL lt a y) : CE (U := (Nat → Int32)) l yX7_does wsX7_does ({ frames := 7, cells := 0, slots := 0, locals := 166 }) D (tyL cI cZ cS cJ) [.ref m0] (List.flatten [mdO m0 m1 m2 m3 th sv kp ln ca lt (nI a) y hs, arC cI m1 1170 (enc B), arC cI m2 60 T, arC cI m3 8 h]) (fun u => True) (fun u => none) (fun u => List.flatten [mdO m0 m1 m2 m3 th sv kp ln ca lt (nI a) y hs, arC cI m1 1170 (enc (uA B 0 (nxt (B 0) lt a y))), arC cI m2 60 T, arC cI m3 8 u]) 0 0 := by
  rcases hp with ⟨rfl, h1, h2⟩ | ⟨rfl, h1, h2⟩ | ⟨rfl, h1⟩ | ⟨rfl, h1⟩ | ⟨rfl, h1⟩ | ⟨rfl, h1⟩ | ⟨rfl, h1⟩
  · exact c_X7_does102 l D cI cZ cS cJ m0 m1 m2 m3 th sv kp ln ca hs B T h a y hG h6 hy hy20 h1 h2
  · exact c_X7_does118 l D cI cZ cS cJ m0 m1 m2 m3 th sv kp ln ca hs B T h a y hG h6 hy hy20 h1 h2
  · exact c_X7_does100 l D cI cZ cS cJ m0 m1 m2 m3 th sv kp ln ca hs B T h a y hG h6 hy hy20 h1
  · exact c_X7_does112 l D cI cZ cS cJ m0 m1 m2 m3 th sv kp ln ca hs B T h a y hG h6 hy hy20 h1
  · exact c_X7_does99 l D cI cZ cS cJ m0 m1 m2 m3 th sv kp ln ca hs B T h a y hG h6 hy hy20 h1
  · exact c_X7_does110 l D cI cZ cS cJ m0 m1 m2 m3 th sv kp ln ca hs B T h a y hG h6 hy hy20 h1
  · exact c_X7_does104 l D cI cZ cS cJ m0 m1 m2 m3 th sv kp ln ca hs B T h a y hG h6 hy hy20 h1

set_option maxHeartbeats 4000000 in
set_option maxRecDepth 100000 in
theorem c_X7_work (l : Launch) (D : va_G) (cI cZ cS cJ : ClassId) (m0 : Nat) (m1 : Nat) (m2 : Nat) (m3 : Nat) (th : Int32) (kp : Int32) (ca : Int32) (lt : Int32) (fi : Int32) (sd : Int32) (hs : Int64) (B : Nat → Nat → Nat → Int32) (T : Nat → Int32) (h : Nat → Int32) (z : Nat) (n : Nat) (hz6 : z ≤ 6) (hn60 : n ≤ 60) (hOK : OK (B 0)) : CE (U := (Int32) × (Nat → Nat → Nat → Int32) × (Int32) × (Int32) × (Int32) × (Int32) × (Int32) × (Int32) × (Nat → Int32) × (Int32)) l yX7_work wsX7_work ({ frames := 8, cells := 0, slots := 0, locals := 186 }) D (tyL cI cZ cS cJ) [.ref m0] (List.flatten [mdO m0 m1 m2 m3 th (nI z) kp (nI n) ca lt fi sd hs, arC cI m1 1170 (enc B), arC cI m2 60 T, arC cI m3 8 h]) (fun u => (Res (k1 (rdS T n = 6 ∨ rdS T n = 7)) u.1 ((B, nI z), nI n) ((uA (savB B z) 0 (wkT T n (B 0)).1, nI (savZ z)), 0) ((u.2.1, u.2.2.1), u.2.2.2.1) (nI (wkT T n (B 0)).2) u.2.2.2.2.2.2.2.2.2)) (fun u => some (.int u.2.2.2.2.2.2.2.2.2)) (fun u => List.flatten [mdO m0 m1 m2 m3 u.1 u.2.2.1 kp u.2.2.2.1 u.2.2.2.2.1 u.2.2.2.2.2.1 u.2.2.2.2.2.2.1 u.2.2.2.2.2.2.2.1 hs, arC cI m1 1170 (enc u.2.1), arC cI m2 60 T, arC cI m3 8 u.2.2.2.2.2.2.2.2.1]) 0 0 := by
  refine CE_int (cc := cX7_work) (maxL := 3) (rt := .int) (by decide) rfl (Nat.le_of_ble_eq_true rfl) (fun _ _ => rfl) ?_
  intro p e s m below meth c A ls Q X hK hP hD hS hA hl hend
  have X : CallFix p m c cX7_work 3 s ([.ref m0] : List Value).toArray wsX7_work RX7 := X
  obtain ⟨hx, hb, hml, hown, hts⟩ := id X
  have hl : lv_has ls 3 [(0, .ref m0)] := hl
  have hinX7 : ∀ w ∈ u_ws RX7 TX7 12, w ∈ wsX7_work := by decide +kernel
  refine lv_aload_n hx hb dX7_work_0 rfl (lv_at hl 0 rfl) ?_
  refine lv_aload_n hx hb dX7_work_1 rfl (lv_at hl 0 rfl) ?_
  refine kcallVE (As := []) (rest := [.ref m0]) (Wn := fun u => [mdO m0 m1 m2 m3 th (nI z) kp (nI n) (nI (epl T n)) u.1 u.2.1 u.2.2 hs, arC cI m1 1170 (enc B), arC cI m2 60 T, arC cI m3 8 h]) X (c_X7_isWork l D cI cZ cS cJ m0 m1 m2 m3 th (nI z) kp ca lt fi sd hs B T h n (by omega)) (cwV 0 hts gX7_work_X7_isWork rfl rfl rfl (by decide +kernel) ⟨Nat.le_of_ble_eq_true rfl, Nat.le_of_ble_eq_true rfl⟩) hK hP hD hS hA [0, 1, 2, 3] rfl (by decide +kernel) (fun _ => rfl) (fun _ => rfl) (fun _ => rfl) 0 7 rfl rfl rfl hl.1 rfl (Nat.le_of_ble_eq_true rfl) dX7_work_2 ⟨Nat.le_of_ble_eq_true rfl, Nat.le_of_ble_eq_true rfl⟩ (fun uu H locs hu hP hD hS => ?_)
  obtain ⟨lt9_1, fi9_1, sd9_1⟩ := uu
  have hP : va_P D vwCl (List.flatten [mdO m0 m1 m2 m3 th (nI z) kp (nI n) (nI (epl T n)) lt9_1 fi9_1 sd9_1 hs, arC cI m1 1170 (enc B), arC cI m2 60 T, arC cI m3 8 h]) _ := hP
  have hD : va_D A (List.flatten [mdO m0 m1 m2 m3 th (nI z) kp (nI n) (nI (epl T n)) lt9_1 fi9_1 sd9_1 hs, arC cI m1 1170 (enc B), arC cI m2 60 T, arC cI m3 8 h]) := hD
  refine lv_if_eq (tgt := 12) hx hb dX7_work_5 (by decide) (fun c5 => ?_) (fun c5 => ?_)
  · skip
    refine lv_iconst (v := 1) hx hb dX7_work_12 (by decide) ?_
    refine kcallV (As := [.int 1]) (rest := []) (Wn := [mdO m0 m1 m2 m3 1 (nI z) kp (nI n) (nI (epl T n)) lt9_1 fi9_1 sd9_1 hs, arC cI m1 1170 (enc B), arC cI m2 60 T, arC cI m3 8 h]) X (c_X7_holds l D cI cZ cS cJ m0 m1 m2 m3 th (nI z) kp (nI n) (nI (epl T n)) lt9_1 fi9_1 sd9_1 hs B T h 1) (cwV 1 hts gX7_work_X7_holds rfl rfl rfl (by decide +kernel) ⟨Nat.le_of_ble_eq_true rfl, Nat.le_of_ble_eq_true rfl⟩) hK hP hD hS hA [0, 1, 2, 3] rfl (by decide +kernel) rfl rfl rfl 0 7 rfl rfl rfl hl.1 rfl (Nat.le_of_ble_eq_true rfl) dX7_work_13 ⟨Nat.le_of_ble_eq_true rfl, Nat.le_of_ble_eq_true rfl⟩ (fun H locs hP hD hS => ?_)
    refine lv_eqi (y := 0) (by decide) ?_
    refine lv_if_ne (tgt := 21) hx hb dX7_work_16 (by decide) (fun h => absurd h (by decide)) (fun _ => ?_)
    refine lv_iconst (v := 0) hx hb dX7_work_19 (by decide) ?_
    refine hend (1, B, nI z, nI n, nI (epl T n), lt9_1, fi9_1, sd9_1, h, 0) _ _ _ _ _ (by first | exact Res_bad (k1_1 (b1_z c5)) nz1 rfl | exact Res_ok (k1_0 hc) rfl (by rw [(wk_r hfin).1]) (by rw [(wk_r hfin).2])) ?_ hP hD hS dX7_work_20
    exact rfl
  · skip
    have hc : rdS T n = 6 ∨ rdS T n = 7 := b1_t c5
    refine lv_iconst (v := 0) hx hb dX7_work_8 (by decide) ?_
    refine lv_goto (tgt := 13) hx hb dX7_work_9 (by decide) ?_
    refine kcallV (As := [.int 0]) (rest := []) (Wn := [mdO m0 m1 m2 m3 0 (nI z) kp (nI n) (nI (epl T n)) lt9_1 fi9_1 sd9_1 hs, arC cI m1 1170 (enc B), arC cI m2 60 T, arC cI m3 8 h]) X (c_X7_holds l D cI cZ cS cJ m0 m1 m2 m3 th (nI z) kp (nI n) (nI (epl T n)) lt9_1 fi9_1 sd9_1 hs B T h 0) (cwV 1 hts gX7_work_X7_holds rfl rfl rfl (by decide +kernel) ⟨Nat.le_of_ble_eq_true rfl, Nat.le_of_ble_eq_true rfl⟩) hK hP hD hS hA [0, 1, 2, 3] rfl (by decide +kernel) rfl rfl rfl 0 7 rfl rfl rfl hl.1 rfl (Nat.le_of_ble_eq_true rfl) dX7_work_13 ⟨Nat.le_of_ble_eq_true rfl, Nat.le_of_ble_eq_true rfl⟩ (fun H locs hP hD hS => ?_)
    refine lv_eqi (y := 1) (by decide) ?_
    refine lv_if_ne (tgt := 21) hx hb dX7_work_16 (by decide) (fun _ => ?_) (fun h => absurd h (by decide))
    refine lv_aload_n hx hb dX7_work_21 rfl (lv_at hl 0 rfl) ?_
    refine kcallV (As := []) (rest := []) (Wn := [mdO m0 m1 m2 m3 0 (nI (savZ z)) kp (nI n) (nI (epl T n)) lt9_1 fi9_1 sd9_1 hs, arC cI m1 1170 (enc (savB B z)), arC cI m2 60 T, arC cI m3 8 h]) X (c_X7_save l D cI cZ cS cJ m0 m1 m2 m3 0 kp (nI n) (nI (epl T n)) lt9_1 fi9_1 sd9_1 hs B T h z (by omega)) (cwV 0 hts gX7_work_X7_save rfl rfl rfl (by decide +kernel) ⟨Nat.le_of_ble_eq_true rfl, Nat.le_of_ble_eq_true rfl⟩) hK hP hD hS hA [0, 1, 2, 3] rfl (by decide +kernel) rfl rfl rfl 0 7 rfl rfl rfl hl.1 rfl (Nat.le_of_ble_eq_true rfl) dX7_work_22 ⟨Nat.le_of_ble_eq_true rfl, Nat.le_of_ble_eq_true rfl⟩ (fun H locs hP hD hS => ?_)
    refine lv_aload_n hx hb dX7_work_25 rfl (lv_at hl 0 rfl) ?_
    refine va_get (D := D) (ci := 7) (v := .ref m1) (C := RX7) (T := TX7) (N := 12) hx hb hts hinX7 hown hK hP 0 rfl rfl 1 (by decide) (hts (.fieldLink RX7 7 "RibbonBalloonsModel" "s" "[I") (by decide +kernel)) (fun _ h9 => h9) rfl dX7_work_26 ?_
    refine lv_bipush (v := 6) hx hb dX7_work_29 (by decide) ?_
    refine lv_sipush (v := (-1000)) hx hb dX7_work_31 (by decide) ?_
    refine r_iast hx hb hK hP hD hS 1 0 6 (f := enc (savB B z)) (x := (-1000)) (wn := List.flatten [mdO m0 m1 m2 m3 0 (nI (savZ z)) kp (nI n) (nI (epl T n)) lt9_1 fi9_1 sd9_1 hs, arC cI m1 1170 (upd (enc (savB B z)) 6 (-1000)), arC cI m2 60 T, arC cI m3 8 h]) rfl rfl (by omega) (by omega) rfl dX7_work_34 (fun H locs hP hD hS => ?_)
    obtain ⟨hP, hD⟩ := PD_cg hP hD 1 (enc (uA (savB B z) 0 (u2 (B 0) 12 6 (-1000)))) rfl (fun j _ => by rw [← sav_id B z, enc_u0 _ _ (by decide), sav_id]) (wn := List.flatten [mdO m0 m1 m2 m3 0 (nI (savZ z)) kp (nI n) (nI (epl T n)) lt9_1 fi9_1 sd9_1 hs, arC cI m1 1170 (enc (uA (savB B z) 0 (u2 (B 0) 12 6 (-1000)))), arC cI m2 60 T, arC cI m3 8 h]) rfl
    refine lv_aload_n hx hb dX7_work_35 rfl (lv_at hl 0 rfl) ?_
    refine va_get (D := D) (ci := 7) (v := .ref m1) (C := RX7) (T := TX7) (N := 12) hx hb hts hinX7 hown hK hP 0 rfl rfl 1 (by decide) (hts (.fieldLink RX7 7 "RibbonBalloonsModel" "s" "[I") (by decide +kernel)) (fun _ h9 => h9) rfl dX7_work_36 ?_
    refine lv_bipush (v := 7) hx hb dX7_work_39 (by decide) ?_
    refine lv_sipush (v := (-1000)) hx hb dX7_work_41 (by decide) ?_
    refine r_iast hx hb hK hP hD hS 1 0 7 (f := enc (uA (savB B z) 0 (u2 (B 0) 12 6 (-1000)))) (x := (-1000)) (wn := List.flatten [mdO m0 m1 m2 m3 0 (nI (savZ z)) kp (nI n) (nI (epl T n)) lt9_1 fi9_1 sd9_1 hs, arC cI m1 1170 (upd (enc (uA (savB B z) 0 (u2 (B 0) 12 6 (-1000)))) 7 (-1000)), arC cI m2 60 T, arC cI m3 8 h]) rfl rfl (by omega) (by omega) rfl dX7_work_44 (fun H locs hP hD hS => ?_)
    obtain ⟨hP, hD⟩ := PD_cg hP hD 1 (enc (uA (savB B z) 0 (clr (B 0)))) rfl (fun j _ => by rw [enc_u0 _ _ (by decide), clr_e]) (wn := List.flatten [mdO m0 m1 m2 m3 0 (nI (savZ z)) kp (nI n) (nI (epl T n)) lt9_1 fi9_1 sd9_1 hs, arC cI m1 1170 (enc (uA (savB B z) 0 (clr (B 0)))), arC cI m2 60 T, arC cI m3 8 h]) rfl
    refine lv_aload_n hx hb dX7_work_45 rfl (lv_at hl 0 rfl) ?_
    refine lv_iconst (v := 0) hx hb dX7_work_46 (by decide) ?_
    refine va_put (D := D) (ci := 7) (v := .int 0) (ty := .int) (C := RX7) (T := TX7) (N := 12) hx hb hts hinX7 tyX7 tyX7_ok nmX7 hown hK hP hD hS 0 rfl rfl 6 (by decide) (hts (.fieldLink RX7 155 "RibbonBalloonsModel" "at" "I") (by decide +kernel)) (fun _ h9 => h9) rfl (by decide +kernel) rfl rfl (Nat.le_of_ble_eq_true rfl) dX7_work_47 (fun H locs hP hD hS => ?_)
    have hP : va_P D vwCl (List.flatten [mdO m0 m1 m2 m3 0 (nI (savZ z)) kp (nI n) 0 lt9_1 fi9_1 sd9_1 hs, arC cI m1 1170 (enc (uA (savB B z) 0 (clr (B 0)))), arC cI m2 60 T, arC cI m3 8 h]) _ := hP
    have hD : va_D A (List.flatten [mdO m0 m1 m2 m3 0 (nI (savZ z)) kp (nI n) 0 lt9_1 fi9_1 sd9_1 hs, arC cI m1 1170 (enc (uA (savB B z) 0 (clr (B 0)))), arC cI m2 60 T, arC cI m3 8 h]) := hD
    refine lv_iconst (v := 0) hx hb dX7_work_50 (by decide) ?_
    refine lv_istore_n (lv' := [(1, .int 0), (0, .ref m0)]) hx hb dX7_work_51 rfl hl (by decide) rfl (fun ls hl => ?_)
    have lp_52 : ∀ (nn : Nat) (f : Nat) (i : Nat) (k : Nat) (Wk : Nat → Nat → Int32) (lt1 : Int32) (fi1 : Int32) (sd1 : Int32) (hh : Nat → Int32), True → (OK Wk) → (i ≤ n) → (k + f ≤ 61) → (wkI T n (B 0) f i k Wk) → f < nn → ∀ (H : Heap) (locs : List Loc) (ls : Array Slot), va_P D vwCl (List.flatten [mdO m0 m1 m2 m3 0 (nI (savZ z)) kp (nI n) (nI i) lt1 fi1 sd1 hs, arC cI m1 1170 (enc (uA (savB B z) 0 Wk)), arC cI m2 60 T, arC cI m3 8 hh]) H → va_D A (List.flatten [mdO m0 m1 m2 m3 0 (nI (savZ z)) kp (nI n) (nI i) lt1 fi1 sd1 hs, arC cI m1 1170 (enc (uA (savB B z) 0 Wk)), arC cI m2 60 T, arC cI m3 8 hh]) → va_S A s.heap H locs → lv_has ls 3 [(0, .ref m0), (1, .int (nI k))] → W p l e ({ frames := 8, cells := 0, slots := 0, locals := 186 } : Room) s m ([.ref m0] : List Value).toArray below meth c H locs 0 0 Q (F0 m 52 ls []) := by
      intro nn
      induction nn with
      | zero => intro f i k Wk lt1 fi1 sd1 hh _ hW hin hfu hst hmz; exact absurd hmz (Nat.not_lt_zero _)
      | succ nn ih =>
        intro f i k Wk lt1 fi1 sd1 hh _ hW hin hfu hst hms H locs ls hP hD hS hl
        refine lv_aload_n hx hb dX7_work_52 rfl (lv_at hl 0 rfl) ?_
        refine va_get (D := D) (ci := 7) (v := .ref m1) (C := RX7) (T := TX7) (N := 12) hx hb hts hinX7 hown hK hP 0 rfl rfl 1 (by decide) (hts (.fieldLink RX7 7 "RibbonBalloonsModel" "s" "[I") (by decide +kernel)) (fun _ h9 => h9) rfl dX7_work_53 ?_
        refine lv_bipush (v := 6) hx hb dX7_work_56 (by decide) ?_
        refine r_iald hx hb hK hP 1 0 6 (f := enc (uA (savB B z) 0 Wk)) rfl rfl (by omega) (by omega) dX7_work_58 ?_
        refine lv_eqi (y := Wk 12 6) (by rw [enc_at0 _ (by decide), uA_s]) ?_
        refine lv_sipush (v := (-1000)) hx hb dX7_work_59 (by decide) ?_
        refine lv_icmp_ne (tgt := 117) hx hb dX7_work_62 (by decide) (fun c62 => ?_) (fun c62 => ?_)
        · skip
          have hfin : (Wk, k) = wkT T n (B 0) := by first | exact wk_e1 hst c62 | exact wk_e2 hst hin hc c62 (b1_z c69)
          refine lv_aload_n hx hb dX7_work_117 rfl (lv_at hl 0 rfl) ?_
          refine lv_iconst (v := 0) hx hb dX7_work_118 (by decide) ?_
          refine va_put (D := D) (ci := 7) (v := .int 0) (ty := .int) (C := RX7) (T := TX7) (N := 12) hx hb hts hinX7 tyX7 tyX7_ok nmX7 hown hK hP hD hS 0 rfl rfl 5 (by decide) (hts (.fieldLink RX7 152 "RibbonBalloonsModel" "length" "I") (by decide +kernel)) (fun _ h9 => h9) rfl (by decide +kernel) rfl rfl (Nat.le_of_ble_eq_true rfl) dX7_work_119 (fun H locs hP hD hS => ?_)
          have hP : va_P D vwCl (List.flatten [mdO m0 m1 m2 m3 0 (nI (savZ z)) kp 0 (nI i) lt1 fi1 sd1 hs, arC cI m1 1170 (enc (uA (savB B z) 0 Wk)), arC cI m2 60 T, arC cI m3 8 hh]) _ := hP
          have hD : va_D A (List.flatten [mdO m0 m1 m2 m3 0 (nI (savZ z)) kp 0 (nI i) lt1 fi1 sd1 hs, arC cI m1 1170 (enc (uA (savB B z) 0 Wk)), arC cI m2 60 T, arC cI m3 8 hh]) := hD
          refine lv_iload_n hx hb dX7_work_122 rfl (lv_at hl 1 rfl) ?_
          refine hend (0, (uA (savB B z) 0 Wk), nI (savZ z), 0, nI i, lt1, fi1, sd1, hh, nI k) _ _ _ _ _ (by first | exact Res_bad (k1_1 (b1_z c5)) nz1 rfl | exact Res_ok (k1_0 hc) rfl (by rw [(wk_r hfin).1]) (by rw [(wk_r hfin).2])) ?_ hP hD hS dX7_work_123
          exact rfl
        · skip
          refine lv_aload_n hx hb dX7_work_65 rfl (lv_at hl 0 rfl) ?_
          refine kcallVE (As := []) (rest := []) (Wn := fun u => [mdO m0 m1 m2 m3 0 (nI (savZ z)) kp (nI n) (nI (prP T n i)) (cod T n i) (prF T n i) u hs, arC cI m1 1170 (enc (uA (savB B z) 0 Wk)), arC cI m2 60 T, arC cI m3 8 hh]) X (c_X7_readsPart l D cI cZ cS cJ m0 m1 m2 m3 0 (nI (savZ z)) kp lt1 fi1 sd1 hs (uA (savB B z) 0 Wk) T hh n i (by omega) (by omega)) (cwV 0 hts gX7_work_X7_readsPart rfl rfl rfl (by decide +kernel) ⟨Nat.le_of_ble_eq_true rfl, Nat.le_of_ble_eq_true rfl⟩) hK hP hD hS hA [0, 1, 2, 3] rfl (by decide +kernel) (fun _ => rfl) (fun _ => rfl) (fun _ => rfl) 0 7 rfl rfl rfl hl.1 rfl (Nat.le_of_ble_eq_true rfl) dX7_work_66 ⟨Nat.le_of_ble_eq_true rfl, Nat.le_of_ble_eq_true rfl⟩ (fun sd9_2 H locs hu hP hD hS => ?_)
          have hse_2 := hu
          have hP : va_P D vwCl (List.flatten [mdO m0 m1 m2 m3 0 (nI (savZ z)) kp (nI n) (nI (prP T n i)) (cod T n i) (prF T n i) sd9_2 hs, arC cI m1 1170 (enc (uA (savB B z) 0 Wk)), arC cI m2 60 T, arC cI m3 8 hh]) _ := hP
          have hD : va_D A (List.flatten [mdO m0 m1 m2 m3 0 (nI (savZ z)) kp (nI n) (nI (prP T n i)) (cod T n i) (prF T n i) sd9_2 hs, arC cI m1 1170 (enc (uA (savB B z) 0 Wk)), arC cI m2 60 T, arC cI m3 8 hh]) := hD
          refine lv_if_eq (tgt := 117) hx hb dX7_work_69 (by decide) (fun c69 => ?_) (fun c69 => ?_)
          · skip
            have hfin : (Wk, k) = wkT T n (B 0) := by first | exact wk_e1 hst c62 | exact wk_e2 hst hin hc c62 (b1_z c69)
            refine lv_aload_n hx hb dX7_work_117 rfl (lv_at hl 0 rfl) ?_
            refine lv_iconst (v := 0) hx hb dX7_work_118 (by decide) ?_
            refine va_put (D := D) (ci := 7) (v := .int 0) (ty := .int) (C := RX7) (T := TX7) (N := 12) hx hb hts hinX7 tyX7 tyX7_ok nmX7 hown hK hP hD hS 0 rfl rfl 5 (by decide) (hts (.fieldLink RX7 152 "RibbonBalloonsModel" "length" "I") (by decide +kernel)) (fun _ h9 => h9) rfl (by decide +kernel) rfl rfl (Nat.le_of_ble_eq_true rfl) dX7_work_119 (fun H locs hP hD hS => ?_)
            have hP : va_P D vwCl (List.flatten [mdO m0 m1 m2 m3 0 (nI (savZ z)) kp 0 (nI (prP T n i)) (cod T n i) (prF T n i) sd9_2 hs, arC cI m1 1170 (enc (uA (savB B z) 0 Wk)), arC cI m2 60 T, arC cI m3 8 hh]) _ := hP
            have hD : va_D A (List.flatten [mdO m0 m1 m2 m3 0 (nI (savZ z)) kp 0 (nI (prP T n i)) (cod T n i) (prF T n i) sd9_2 hs, arC cI m1 1170 (enc (uA (savB B z) 0 Wk)), arC cI m2 60 T, arC cI m3 8 hh]) := hD
            refine lv_iload_n hx hb dX7_work_122 rfl (lv_at hl 1 rfl) ?_
            refine hend (0, (uA (savB B z) 0 Wk), nI (savZ z), 0, nI (prP T n i), cod T n i, prF T n i, sd9_2, hh, nI k) _ _ _ _ _ (by first | exact Res_bad (k1_1 (b1_z c5)) nz1 rfl | exact Res_ok (k1_0 hc) rfl (by rw [(wk_r hfin).1]) (by rw [(wk_r hfin).2])) ?_ hP hD hS dX7_work_123
            exact rfl
          · skip
            obtain ⟨hrd, hf1⟩ := wk_rd hst c62 (b1_t c69)
            obtain ⟨hpn, hpi, hpe⟩ := part_ok hrd (b1_t c69)
            have hpl := part_PL (b1_t c69)
            have eZ : prF T n i = nI (pa T n i) := hpl.2
            obtain ⟨hP, hD⟩ := PD_re (wn := List.flatten [mdO m0 m1 m2 m3 0 (nI (savZ z)) kp (nI n) (nI (prP T n i)) (cod T n i) (nI (pa T n i)) sd9_2 hs, arC cI m1 1170 (enc (uA (savB B z) 0 Wk)), arC cI m2 60 T, arC cI m3 8 hh]) (by rw [eZ]) hP hD
            have hpl3 := PL_sd (y := sd9_2) hpl.1 hse_2
            refine lv_aload_n hx hb dX7_work_72 rfl (lv_at hl 0 rfl) ?_
            refine kcallVE (As := []) (rest := []) (Wn := fun u => [mdO m0 m1 m2 m3 0 (nI (savZ z)) kp (nI n) (nI (prP T n i)) (cod T n i) (nI (pa T n i)) sd9_2 hs, arC cI m1 1170 (enc (uA (savB B z) 0 Wk)), arC cI m2 60 T, arC cI m3 8 u]) X (c_X7_stops l D cI cZ cS cJ m0 m1 m2 m3 0 (nI (savZ z)) kp (nI n) (nI (prP T n i)) hs (uA (savB B z) 0 Wk) T hh (cod T n i) (pa T n i) sd9_2 (by rw [uA_s]; exact hW.1) (by rw [uA_s]; exact hW.2.1) (by rw [uA_s]; exact hW.2.2.1) (by rw [uA_s]; exact hW.2.2.2) hpl3.1) (cwV 0 hts gX7_work_X7_stops rfl rfl rfl (by decide +kernel) ⟨Nat.le_of_ble_eq_true rfl, Nat.le_of_ble_eq_true rfl⟩) hK hP hD hS hA [0, 1, 2, 3] rfl (by decide +kernel) (fun _ => rfl) (fun _ => rfl) (fun _ => rfl) 0 7 rfl rfl rfl hl.1 rfl (Nat.le_of_ble_eq_true rfl) dX7_work_73 ⟨Nat.le_of_ble_eq_true rfl, Nat.le_of_ble_eq_true rfl⟩ (fun h9_3 H locs hu hP hD hS => ?_)
            have hP : va_P D vwCl (List.flatten [mdO m0 m1 m2 m3 0 (nI (savZ z)) kp (nI n) (nI (prP T n i)) (cod T n i) (nI (pa T n i)) sd9_2 hs, arC cI m1 1170 (enc (uA (savB B z) 0 Wk)), arC cI m2 60 T, arC cI m3 8 h9_3]) _ := hP
            have hD : va_D A (List.flatten [mdO m0 m1 m2 m3 0 (nI (savZ z)) kp (nI n) (nI (prP T n i)) (cod T n i) (nI (pa T n i)) sd9_2 hs, arC cI m1 1170 (enc (uA (savB B z) 0 Wk)), arC cI m2 60 T, arC cI m3 8 h9_3]) := hD
            refine lv_eqi (y := rsn Wk (cod T n i) (pa T n i) (prS T n i)) (by rw [uA_s]; exact hpl3.2.1 Wk) ?_
            refine lv_istore_n (lv' := [(2, .int (rsn Wk (cod T n i) (pa T n i) (prS T n i))), (0, .ref m0), (1, .int (nI k))]) hx hb dX7_work_76 rfl hl (by decide) rfl (fun ls hl => ?_)
            refine lv_iload_n hx hb dX7_work_77 rfl (lv_at hl 0 rfl) ?_
            refine lv_if_le (tgt := 100) hx hb dX7_work_78 (by decide) (fun c78 => ?_) (fun c78 => ?_)
            · skip
              refine lv_aload_n hx hb dX7_work_100 rfl (lv_at hl 1 rfl) ?_
              refine kcallVE (As := []) (rest := []) (Wn := fun u => [mdO m0 m1 m2 m3 0 (nI (savZ z)) kp (nI n) (nI (prP T n i)) (cod T n i) (nI (pa T n i)) sd9_2 hs, arC cI m1 1170 (enc (uA (uA (savB B z) 0 Wk) 0 (nxt ((uA (savB B z) 0 Wk) 0) (cod T n i) (pa T n i) sd9_2))), arC cI m2 60 T, arC cI m3 8 u]) X (c_X7_does l D cI cZ cS cJ m0 m1 m2 m3 0 (nI (savZ z)) kp (nI n) (nI (prP T n i)) hs (uA (savB B z) 0 Wk) T h9_3 (cod T n i) (pa T n i) sd9_2 (by rw [uA_s]; exact hW.1) (by rw [uA_s]; exact hW.2.1) (by rw [uA_s]; exact hW.2.2.1) (by rw [uA_s]; exact hW.2.2.2) hpl3.1) (cwV 0 hts gX7_work_X7_does rfl rfl rfl (by decide +kernel) ⟨Nat.le_of_ble_eq_true rfl, Nat.le_of_ble_eq_true rfl⟩) hK hP hD hS hA [0, 1, 2, 3] rfl (by decide +kernel) (fun _ => rfl) (fun _ => rfl) (fun _ => rfl) 0 7 rfl rfl rfl hl.1 rfl (Nat.le_of_ble_eq_true rfl) dX7_work_101 ⟨Nat.le_of_ble_eq_true rfl, Nat.le_of_ble_eq_true rfl⟩ (fun h9_4 H locs hu hP hD hS => ?_)
              have hP : va_P D vwCl (List.flatten [mdO m0 m1 m2 m3 0 (nI (savZ z)) kp (nI n) (nI (prP T n i)) (cod T n i) (nI (pa T n i)) sd9_2 hs, arC cI m1 1170 (enc (uA (uA (savB B z) 0 Wk) 0 (nxt ((uA (savB B z) 0 Wk) 0) (cod T n i) (pa T n i) sd9_2))), arC cI m2 60 T, arC cI m3 8 h9_4]) _ := hP
              have hD : va_D A (List.flatten [mdO m0 m1 m2 m3 0 (nI (savZ z)) kp (nI n) (nI (prP T n i)) (cod T n i) (nI (pa T n i)) sd9_2 hs, arC cI m1 1170 (enc (uA (uA (savB B z) 0 Wk) 0 (nxt ((uA (savB B z) 0 Wk) 0) (cod T n i) (pa T n i) sd9_2))), arC cI m2 60 T, arC cI m3 8 h9_4]) := hD
              obtain ⟨hP, hD⟩ := PD_cg hP hD 1 (enc (uA (savB B z) 0 (nxt Wk (cod T n i) (pa T n i) (prS T n i)))) rfl (fun j _ => by rw [uA_s, uA_uA, hpl3.2.2]) (wn := List.flatten [mdO m0 m1 m2 m3 0 (nI (savZ z)) kp (nI n) (nI (prP T n i)) (cod T n i) (nI (pa T n i)) sd9_2 hs, arC cI m1 1170 (enc (uA (savB B z) 0 (nxt Wk (cod T n i) (pa T n i) (prS T n i)))), arC cI m2 60 T, arC cI m3 8 h9_4]) rfl
              refine lv_iinc (v := nI (k + 1)) (lv' := [(1, .int (nI (k + 1))), (2, .int (rsn Wk (cod T n i) (pa T n i) (prS T n i))), (0, .ref m0)]) hx hb dX7_work_104 hl (k := 2) rfl (nI_add _ _) (by decide) rfl (fun ls hl => ?_)
              refine lv_aload_n hx hb dX7_work_107 rfl (lv_at hl 2 rfl) ?_
              refine lv_bipush (v := 59) hx hb dX7_work_108 (by decide) ?_
              refine kcallV (As := [.int 59]) (rest := []) (Wn := [mdO m0 m1 m2 m3 0 (nI (savZ z)) kp (nI n) (nI (tkp T n (prP T n i) 59)) (cod T n i) (nI (pa T n i)) sd9_2 hs, arC cI m1 1170 (enc (uA (savB B z) 0 (nxt Wk (cod T n i) (pa T n i) (prS T n i)))), arC cI m2 60 T, arC cI m3 8 h9_4]) X (c_X7_takes l D cI cZ cS cJ m0 m1 m2 m3 0 (nI (savZ z)) kp (cod T n i) (nI (pa T n i)) sd9_2 hs (uA (savB B z) 0 (nxt Wk (cod T n i) (pa T n i) (prS T n i))) T h9_4 n (prP T n i) 59 (by omega) hpn) (cwV 1 hts gX7_work_X7_takes rfl rfl rfl (by decide +kernel) ⟨Nat.le_of_ble_eq_true rfl, Nat.le_of_ble_eq_true rfl⟩) hK hP hD hS hA [0, 1, 2, 3] rfl (by decide +kernel) rfl rfl rfl 0 7 rfl rfl rfl hl.1 rfl (Nat.le_of_ble_eq_true rfl) dX7_work_110 ⟨Nat.le_of_ble_eq_true rfl, Nat.le_of_ble_eq_true rfl⟩ (fun H locs hP hD hS => ?_)
              refine lv_pop hx hb dX7_work_113 rfl ?_
              refine lv_goto (tgt := 52) hx hb dX7_work_114 (by decide) ?_
              have hP : va_P D vwCl (List.flatten [mdO m0 m1 m2 m3 0 (nI (savZ z)) kp (nI n) (nI (tkp T n (prP T n i) 59)) (cod T n i) (nI (pa T n i)) sd9_2 hs, arC cI m1 1170 (enc (uA (savB B z) 0 (nxt Wk (cod T n i) (pa T n i) (prS T n i)))), arC cI m2 60 T, arC cI m3 8 h9_4]) _ := hP
              have hD : va_D A (List.flatten [mdO m0 m1 m2 m3 0 (nI (savZ z)) kp (nI n) (nI (tkp T n (prP T n i) 59)) (cod T n i) (nI (pa T n i)) sd9_2 hs, arC cI m1 1170 (enc (uA (savB B z) 0 (nxt Wk (cod T n i) (pa T n i) (prS T n i)))), arC cI m2 60 T, arC cI m3 8 h9_4]) := hD
              exact ih  (f - 1) (tkp T n (prP T n i) 59) (k + 1) (nxt Wk (cod T n i) (pa T n i) (prS T n i)) (cod T n i) (nI (pa T n i)) sd9_2 h9_4 trivial (by first | exact OK_stp hW _ _ | exact OK_nxt hW hpl.1 (rsn_z c78)) (by first | exact hpn | exact tk_le hpn) (by omega) (by first | exact wk_stop hst c62 (b1_t c69) (nz_le c78) (by omega) _ _ | exact wk_go hst c62 hc (b1_t c69) (rsn_z c78)) (by omega) _ _ _ hP hD hS (lv_sub hl [2, 0] rfl)
            · skip
              refine lv_aload_n hx hb dX7_work_81 rfl (lv_at hl 1 rfl) ?_
              refine va_get (D := D) (ci := 7) (v := .ref m1) (C := RX7) (T := TX7) (N := 12) hx hb hts hinX7 hown hK hP 0 rfl rfl 1 (by decide) (hts (.fieldLink RX7 7 "RibbonBalloonsModel" "s" "[I") (by decide +kernel)) (fun _ h9 => h9) rfl dX7_work_82 ?_
              refine lv_bipush (v := 6) hx hb dX7_work_85 (by decide) ?_
              refine lv_iload_n hx hb dX7_work_87 rfl (lv_at hl 2 rfl) ?_
              refine r_iast hx hb hK hP hD hS 1 0 6 (f := enc (uA (savB B z) 0 Wk)) (x := nI k) (wn := List.flatten [mdO m0 m1 m2 m3 0 (nI (savZ z)) kp (nI n) (nI (prP T n i)) (cod T n i) (nI (pa T n i)) sd9_2 hs, arC cI m1 1170 (upd (enc (uA (savB B z) 0 Wk)) 6 (nI k)), arC cI m2 60 T, arC cI m3 8 h9_3]) rfl rfl (by omega) (by omega) rfl dX7_work_88 (fun H locs hP hD hS => ?_)
              obtain ⟨hP, hD⟩ := PD_cg hP hD 1 (enc (uA (savB B z) 0 (u2 Wk 12 6 (nI k)))) rfl (fun j _ => by rw [enc_u0 _ _ (by decide)]) (wn := List.flatten [mdO m0 m1 m2 m3 0 (nI (savZ z)) kp (nI n) (nI (prP T n i)) (cod T n i) (nI (pa T n i)) sd9_2 hs, arC cI m1 1170 (enc (uA (savB B z) 0 (u2 Wk 12 6 (nI k)))), arC cI m2 60 T, arC cI m3 8 h9_3]) rfl
              refine lv_aload_n hx hb dX7_work_89 rfl (lv_at hl 1 rfl) ?_
              refine va_get (D := D) (ci := 7) (v := .ref m1) (C := RX7) (T := TX7) (N := 12) hx hb hts hinX7 hown hK hP 0 rfl rfl 1 (by decide) (hts (.fieldLink RX7 7 "RibbonBalloonsModel" "s" "[I") (by decide +kernel)) (fun _ h9 => h9) rfl dX7_work_90 ?_
              refine lv_bipush (v := 7) hx hb dX7_work_93 (by decide) ?_
              refine lv_iload_n hx hb dX7_work_95 rfl (lv_at hl 0 rfl) ?_
              refine r_iast hx hb hK hP hD hS 1 0 7 (f := enc (uA (savB B z) 0 (u2 Wk 12 6 (nI k)))) (x := rsn Wk (cod T n i) (pa T n i) (prS T n i)) (wn := List.flatten [mdO m0 m1 m2 m3 0 (nI (savZ z)) kp (nI n) (nI (prP T n i)) (cod T n i) (nI (pa T n i)) sd9_2 hs, arC cI m1 1170 (upd (enc (uA (savB B z) 0 (u2 Wk 12 6 (nI k)))) 7 (rsn Wk (cod T n i) (pa T n i) (prS T n i))), arC cI m2 60 T, arC cI m3 8 h9_3]) rfl rfl (by omega) (by omega) rfl dX7_work_96 (fun H locs hP hD hS => ?_)
              obtain ⟨hP, hD⟩ := PD_cg hP hD 1 (enc (uA (savB B z) 0 (stp Wk k (rsn Wk (cod T n i) (pa T n i) (prS T n i))))) rfl (fun j _ => by rw [enc_u0 _ _ (by decide), stp_e]) (wn := List.flatten [mdO m0 m1 m2 m3 0 (nI (savZ z)) kp (nI n) (nI (prP T n i)) (cod T n i) (nI (pa T n i)) sd9_2 hs, arC cI m1 1170 (enc (uA (savB B z) 0 (stp Wk k (rsn Wk (cod T n i) (pa T n i) (prS T n i))))), arC cI m2 60 T, arC cI m3 8 h9_3]) rfl
              refine lv_goto (tgt := 114) hx hb dX7_work_97 (by decide) ?_
              refine lv_goto (tgt := 52) hx hb dX7_work_114 (by decide) ?_
              have hP : va_P D vwCl (List.flatten [mdO m0 m1 m2 m3 0 (nI (savZ z)) kp (nI n) (nI (prP T n i)) (cod T n i) (nI (pa T n i)) sd9_2 hs, arC cI m1 1170 (enc (uA (savB B z) 0 (stp Wk k (rsn Wk (cod T n i) (pa T n i) (prS T n i))))), arC cI m2 60 T, arC cI m3 8 h9_3]) _ := hP
              have hD : va_D A (List.flatten [mdO m0 m1 m2 m3 0 (nI (savZ z)) kp (nI n) (nI (prP T n i)) (cod T n i) (nI (pa T n i)) sd9_2 hs, arC cI m1 1170 (enc (uA (savB B z) 0 (stp Wk k (rsn Wk (cod T n i) (pa T n i) (prS T n i))))), arC cI m2 60 T, arC cI m3 8 h9_3]) := hD
              exact ih  (f - 1) (prP T n i) k (stp Wk k (rsn Wk (cod T n i) (pa T n i) (prS T n i))) (cod T n i) (nI (pa T n i)) sd9_2 h9_3 trivial (by first | exact OK_stp hW _ _ | exact OK_nxt hW hpl.1 (rsn_z c78)) (by first | exact hpn | exact tk_le hpn) (by omega) (by first | exact wk_stop hst c62 (b1_t c69) (nz_le c78) (by omega) _ _ | exact wk_go hst c62 hc (b1_t c69) (rsn_z c78)) (by omega) _ _ _ hP hD hS (lv_sub hl [1, 2] rfl)
    have hP : va_P D vwCl (List.flatten [mdO m0 m1 m2 m3 0 (nI (savZ z)) kp (nI n) (nI 0) lt9_1 fi9_1 sd9_1 hs, arC cI m1 1170 (enc (uA (savB B z) 0 (clr (B 0)))), arC cI m2 60 T, arC cI m3 8 h]) _ := hP
    have hD : va_D A (List.flatten [mdO m0 m1 m2 m3 0 (nI (savZ z)) kp (nI n) (nI 0) lt9_1 fi9_1 sd9_1 hs, arC cI m1 1170 (enc (uA (savB B z) 0 (clr (B 0)))), arC cI m2 60 T, arC cI m3 8 h]) := hD
    exact lp_52 ((n + 1) + 1) (n + 1) 0 0 (clr (B 0)) lt9_1 fi9_1 sd9_1 h trivial (OK_clr hOK) (by omega) (by omega) (wk_0 T n (B 0)) (Nat.lt_succ_self _) _ _ _ hP hD hS (lv_sub hl [1, 0] rfl)

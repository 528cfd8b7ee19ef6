set_option maxHeartbeats 4000000 in
set_option maxRecDepth 100000 in
theorem c_X7_counted0 (l : Launch) (D : va_G) (cI cZ cS cJ : ClassId) (m0 : Nat) (m1 : Nat) (m2 : Nat) (m3 : Nat) (th : Int32) (kp : Int32) (ln : Int32) (ca : Int32) (lt : Int32) (fi : Int32) (sd : Int32) (hs : Int64) (B : Nat → Nat → Nat → Int32) (T : Nat → Int32) (h : Nat → Int32) (z : Nat) (hz6 : z ≤ 6) (hG : GB (B 0)) (h6 : B 0 6 = ht (B 0)) : CE (U := (Nat → Int32)) l yX7_counted wsX7_counted ({ frames := 5, cells := 0, slots := 0, locals := 113 }) D (tyL cI cZ cS cJ) [.ref m0, .int 0] (List.flatten [mdO m0 m1 m2 m3 th (nI z) kp ln ca lt fi sd hs, arC cI m1 1170 (enc B), arC cI m2 60 T, arC cI m3 8 h]) (fun u => True) (fun u => some (.int (cntS (B 0) z 0))) (fun u => List.flatten [mdO m0 m1 m2 m3 th (nI z) kp ln ca lt fi sd hs, arC cI m1 1170 (enc B), arC cI m2 60 T, arC cI m3 8 u]) 0 0 := by
  refine CE_int (cc := cX7_counted) (maxL := 2) (rt := .int) (by decide) rfl (Nat.le_of_ble_eq_true rfl) (fun _ _ => rfl) ?_
  intro p e s m below meth c A ls Q X hK hP hD hS hA hl hend
  have X : CallFix p m c cX7_counted 2 s ([.ref m0, .int 0] : List Value).toArray wsX7_counted RX7 := X
  obtain ⟨hx, hb, hml, hown, hts⟩ := id X
  have hl : lv_has ls 2 [(0, .ref m0), (1, .int 0)] := hl
  have hinX7 : ∀ w ∈ u_ws RX7 TX7 12, w ∈ wsX7_counted := by decide +kernel
  refine lv_iload_n hx hb dX7_counted_0 rfl (lv_at hl 1 rfl) ?_
  refine lv_tableIn (tgt := 76) hx hb dX7_counted_1 (by decide) (by decide) rfl (by decide) ?_
  refine lv_aload_n hx hb dX7_counted_76 rfl (lv_at hl 0 rfl) ?_
  refine va_get (D := D) (ci := 7) (v := .ref m1) (C := RX7) (T := TX7) (N := 12) hx hb hts hinX7 hown hK hP 0 rfl rfl 1 (by decide) (hts (.fieldLink RX7 7 "RibbonBalloonsModel" "s" "[I") (by decide +kernel)) (fun _ h9 => h9) rfl dX7_counted_77 ?_
  refine lv_iconst (v := 0) hx hb dX7_counted_80 (by decide) ?_
  refine r_iald hx hb hK hP 1 0 0 (f := enc B) rfl rfl (by omega) (by omega) dX7_counted_81 ?_
  refine hend (h) _ _ _ _ _ trivial ?_ hP hD hS dX7_counted_82
  exact enc_at0 B (i := 0) (by decide)

set_option maxHeartbeats 4000000 in
set_option maxRecDepth 100000 in
theorem c_X7_counted1 (l : Launch) (D : va_G) (cI cZ cS cJ : ClassId) (m0 : Nat) (m1 : Nat) (m2 : Nat) (m3 : Nat) (th : Int32) (kp : Int32) (ln : Int32) (ca : Int32) (lt : Int32) (fi : Int32) (sd : Int32) (hs : Int64) (B : Nat → Nat → Nat → Int32) (T : Nat → Int32) (h : Nat → Int32) (z : Nat) (hz6 : z ≤ 6) (hG : GB (B 0)) (h6 : B 0 6 = ht (B 0)) : CE (U := (Nat → Int32)) l yX7_counted wsX7_counted ({ frames := 5, cells := 0, slots := 0, locals := 113 }) D (tyL cI cZ cS cJ) [.ref m0, .int 1] (List.flatten [mdO m0 m1 m2 m3 th (nI z) kp ln ca lt fi sd hs, arC cI m1 1170 (enc B), arC cI m2 60 T, arC cI m3 8 h]) (fun u => True) (fun u => some (.int (cntS (B 0) z 1))) (fun u => List.flatten [mdO m0 m1 m2 m3 th (nI z) kp ln ca lt fi sd hs, arC cI m1 1170 (enc B), arC cI m2 60 T, arC cI m3 8 u]) 0 0 := by
  refine CE_int (cc := cX7_counted) (maxL := 2) (rt := .int) (by decide) rfl (Nat.le_of_ble_eq_true rfl) (fun _ _ => rfl) ?_
  intro p e s m below meth c A ls Q X hK hP hD hS hA hl hend
  have X : CallFix p m c cX7_counted 2 s ([.ref m0, .int 1] : List Value).toArray wsX7_counted RX7 := X
  obtain ⟨hx, hb, hml, hown, hts⟩ := id X
  have hl : lv_has ls 2 [(0, .ref m0), (1, .int 1)] := hl
  refine lv_iload_n hx hb dX7_counted_0 rfl (lv_at hl 1 rfl) ?_
  refine lv_tableIn (tgt := 83) hx hb dX7_counted_1 (by decide) (by decide) rfl (by decide) ?_
  refine lv_aload_n hx hb dX7_counted_83 rfl (lv_at hl 0 rfl) ?_
  refine kcallV (As := []) (rest := []) (Wn := [mdO m0 m1 m2 m3 th (nI z) kp ln ca lt fi sd hs, arC cI m1 1170 (enc B), arC cI m2 60 T, arC cI m3 8 h]) X (c_X7_allGas l D cI cZ cS cJ m0 m1 m2 m3 th (nI z) kp ln ca lt fi sd hs B T h) (cwV 0 hts gX7_counted_X7_allGas rfl rfl rfl (by decide +kernel) ⟨Nat.le_of_ble_eq_true rfl, Nat.le_of_ble_eq_true rfl⟩) hK hP hD hS hA [0, 1, 2, 3] rfl (by decide +kernel) rfl rfl rfl 0 7 rfl rfl rfl hl.1 rfl (Nat.le_of_ble_eq_true rfl) dX7_counted_84 ⟨Nat.le_of_ble_eq_true rfl, Nat.le_of_ble_eq_true rfl⟩ (fun H locs hP hD hS => ?_)
  refine hend (h) _ _ _ _ _ trivial ?_ hP hD hS dX7_counted_87
  exact rfl

set_option maxHeartbeats 4000000 in
set_option maxRecDepth 100000 in
theorem c_X7_counted2 (l : Launch) (D : va_G) (cI cZ cS cJ : ClassId) (m0 : Nat) (m1 : Nat) (m2 : Nat) (m3 : Nat) (th : Int32) (kp : Int32) (ln : Int32) (ca : Int32) (lt : Int32) (fi : Int32) (sd : Int32) (hs : Int64) (B : Nat → Nat → Nat → Int32) (T : Nat → Int32) (h : Nat → Int32) (z : Nat) (hz6 : z ≤ 6) (hG : GB (B 0)) (h6 : B 0 6 = ht (B 0)) : CE (U := (Nat → Int32)) l yX7_counted wsX7_counted ({ frames := 5, cells := 0, slots := 0, locals := 113 }) D (tyL cI cZ cS cJ) [.ref m0, .int 2] (List.flatten [mdO m0 m1 m2 m3 th (nI z) kp ln ca lt fi sd hs, arC cI m1 1170 (enc B), arC cI m2 60 T, arC cI m3 8 h]) (fun u => True) (fun u => some (.int (cntS (B 0) z 2))) (fun u => List.flatten [mdO m0 m1 m2 m3 th (nI z) kp ln ca lt fi sd hs, arC cI m1 1170 (enc B), arC cI m2 60 T, arC cI m3 8 u]) 0 0 := by
  refine CE_int (cc := cX7_counted) (maxL := 2) (rt := .int) (by decide) rfl (Nat.le_of_ble_eq_true rfl) (fun _ _ => rfl) ?_
  intro p e s m below meth c A ls Q X hK hP hD hS hA hl hend
  have X : CallFix p m c cX7_counted 2 s ([.ref m0, .int 2] : List Value).toArray wsX7_counted RX7 := X
  obtain ⟨hx, hb, hml, hown, hts⟩ := id X
  have hl : lv_has ls 2 [(0, .ref m0), (1, .int 2)] := hl
  have hinX7 : ∀ w ∈ u_ws RX7 TX7 12, w ∈ wsX7_counted := by decide +kernel
  refine lv_iload_n hx hb dX7_counted_0 rfl (lv_at hl 1 rfl) ?_
  refine lv_tableIn (tgt := 88) hx hb dX7_counted_1 (by decide) (by decide) rfl (by decide) ?_
  refine lv_sipush (v := 480) hx hb dX7_counted_88 (by decide) ?_
  refine lv_aload_n hx hb dX7_counted_91 rfl (lv_at hl 0 rfl) ?_
  refine va_get (D := D) (ci := 7) (v := .ref m1) (C := RX7) (T := TX7) (N := 12) hx hb hts hinX7 hown hK hP 0 rfl rfl 1 (by decide) (hts (.fieldLink RX7 7 "RibbonBalloonsModel" "s" "[I") (by decide +kernel)) (fun _ h9 => h9) rfl dX7_counted_92 ?_
  refine lv_iconst (v := 1) hx hb dX7_counted_95 (by decide) ?_
  refine r_iald hx hb hK hP 1 0 1 (f := enc B) rfl rfl (by omega) (by omega) dX7_counted_96 ?_
  refine lv_iadd hx hb dX7_counted_97 ?_
  refine lv_aload_n hx hb dX7_counted_98 rfl (lv_at hl 0 rfl) ?_
  refine va_get (D := D) (ci := 7) (v := .ref m1) (C := RX7) (T := TX7) (N := 12) hx hb hts hinX7 hown hK hP 0 rfl rfl 1 (by decide) (hts (.fieldLink RX7 7 "RibbonBalloonsModel" "s" "[I") (by decide +kernel)) (fun _ h9 => h9) rfl dX7_counted_99 ?_
  refine lv_iconst (v := 2) hx hb dX7_counted_102 (by decide) ?_
  refine r_iald hx hb hK hP 1 0 2 (f := enc B) rfl rfl (by omega) (by omega) dX7_counted_103 ?_
  refine lv_isub hx hb dX7_counted_104 ?_
  refine lv_aload_n hx hb dX7_counted_105 rfl (lv_at hl 0 rfl) ?_
  refine va_get (D := D) (ci := 7) (v := .ref m1) (C := RX7) (T := TX7) (N := 12) hx hb hts hinX7 hown hK hP 0 rfl rfl 1 (by decide) (hts (.fieldLink RX7 7 "RibbonBalloonsModel" "s" "[I") (by decide +kernel)) (fun _ h9 => h9) rfl dX7_counted_106 ?_
  refine lv_iconst (v := 3) hx hb dX7_counted_109 (by decide) ?_
  refine r_iald hx hb hK hP 1 0 3 (f := enc B) rfl rfl (by omega) (by omega) dX7_counted_110 ?_
  refine lv_isub hx hb dX7_counted_111 ?_
  refine hend (h) _ _ _ _ _ trivial ?_ hP hD hS dX7_counted_112
  rw [enc_at0 B (i := 1) (by decide), enc_at0 B (i := 2) (by decide), enc_at0 B (i := 3) (by decide)]
  exact rfl

set_option maxHeartbeats 4000000 in
set_option maxRecDepth 100000 in
theorem c_X7_counted3 (l : Launch) (D : va_G) (cI cZ cS cJ : ClassId) (m0 : Nat) (m1 : Nat) (m2 : Nat) (m3 : Nat) (th : Int32) (kp : Int32) (ln : Int32) (ca : Int32) (lt : Int32) (fi : Int32) (sd : Int32) (hs : Int64) (B : Nat → Nat → Nat → Int32) (T : Nat → Int32) (h : Nat → Int32) (z : Nat) (hz6 : z ≤ 6) (hG : GB (B 0)) (h6 : B 0 6 = ht (B 0)) : CE (U := (Nat → Int32)) l yX7_counted wsX7_counted ({ frames := 5, cells := 0, slots := 0, locals := 113 }) D (tyL cI cZ cS cJ) [.ref m0, .int 3] (List.flatten [mdO m0 m1 m2 m3 th (nI z) kp ln ca lt fi sd hs, arC cI m1 1170 (enc B), arC cI m2 60 T, arC cI m3 8 h]) (fun u => True) (fun u => some (.int (cntS (B 0) z 3))) (fun u => List.flatten [mdO m0 m1 m2 m3 th (nI z) kp ln ca lt fi sd hs, arC cI m1 1170 (enc B), arC cI m2 60 T, arC cI m3 8 u]) 0 0 := by
  refine CE_int (cc := cX7_counted) (maxL := 2) (rt := .int) (by decide) rfl (Nat.le_of_ble_eq_true rfl) (fun _ _ => rfl) ?_
  intro p e s m below meth c A ls Q X hK hP hD hS hA hl hend
  have X : CallFix p m c cX7_counted 2 s ([.ref m0, .int 3] : List Value).toArray wsX7_counted RX7 := X
  obtain ⟨hx, hb, hml, hown, hts⟩ := id X
  have hl : lv_has ls 2 [(0, .ref m0), (1, .int 3)] := hl
  have hinX7 : ∀ w ∈ u_ws RX7 TX7 12, w ∈ wsX7_counted := by decide +kernel
  refine lv_iload_n hx hb dX7_counted_0 rfl (lv_at hl 1 rfl) ?_
  refine lv_tableIn (tgt := 169) hx hb dX7_counted_1 (by decide) (by decide) rfl (by decide) ?_
  refine lv_aload_n hx hb dX7_counted_169 rfl (lv_at hl 0 rfl) ?_
  refine va_get (D := D) (ci := 7) (v := .ref m1) (C := RX7) (T := TX7) (N := 12) hx hb hts hinX7 hown hK hP 0 rfl rfl 1 (by decide) (hts (.fieldLink RX7 7 "RibbonBalloonsModel" "s" "[I") (by decide +kernel)) (fun _ h9 => h9) rfl dX7_counted_170 ?_
  refine lv_iconst (v := 1) hx hb dX7_counted_173 (by decide) ?_
  refine lv_iload_n hx hb dX7_counted_174 rfl (lv_at hl 1 rfl) ?_
  refine lv_iadd hx hb dX7_counted_175 ?_
  refine lv_eqi (y := 4) (by decide) ?_
  refine lv_iconst (v := 3) hx hb dX7_counted_176 (by decide) ?_
  refine lv_isub hx hb dX7_counted_177 ?_
  refine lv_eqi (y := 1) (by decide) ?_
  refine r_iald hx hb hK hP 1 0 1 (f := enc B) rfl rfl (by omega) (by omega) dX7_counted_178 ?_
  refine hend (h) _ _ _ _ _ trivial ?_ hP hD hS dX7_counted_179
  exact enc_at0 B (i := 1) (by decide)

set_option maxHeartbeats 4000000 in
set_option maxRecDepth 100000 in
theorem c_X7_counted4 (l : Launch) (D : va_G) (cI cZ cS cJ : ClassId) (m0 : Nat) (m1 : Nat) (m2 : Nat) (m3 : Nat) (th : Int32) (kp : Int32) (ln : Int32) (ca : Int32) (lt : Int32) (fi : Int32) (sd : Int32) (hs : Int64) (B : Nat → Nat → Nat → Int32) (T : Nat → Int32) (h : Nat → Int32) (z : Nat) (hz6 : z ≤ 6) (hG : GB (B 0)) (h6 : B 0 6 = ht (B 0)) : CE (U := (Nat → Int32)) l yX7_counted wsX7_counted ({ frames := 5, cells := 0, slots := 0, locals := 113 }) D (tyL cI cZ cS cJ) [.ref m0, .int 4] (List.flatten [mdO m0 m1 m2 m3 th (nI z) kp ln ca lt fi sd hs, arC cI m1 1170 (enc B), arC cI m2 60 T, arC cI m3 8 h]) (fun u => True) (fun u => some (.int (cntS (B 0) z 4))) (fun u => List.flatten [mdO m0 m1 m2 m3 th (nI z) kp ln ca lt fi sd hs, arC cI m1 1170 (enc B), arC cI m2 60 T, arC cI m3 8 u]) 0 0 := by
  refine CE_int (cc := cX7_counted) (maxL := 2) (rt := .int) (by decide) rfl (Nat.le_of_ble_eq_true rfl) (fun _ _ => rfl) ?_
  intro p e s m below meth c A ls Q X hK hP hD hS hA hl hend
  have X : CallFix p m c cX7_counted 2 s ([.ref m0, .int 4] : List Value).toArray wsX7_counted RX7 := X
  obtain ⟨hx, hb, hml, hown, hts⟩ := id X
  have hl : lv_has ls 2 [(0, .ref m0), (1, .int 4)] := hl
  have hinX7 : ∀ w ∈ u_ws RX7 TX7 12, w ∈ wsX7_counted := by decide +kernel
  refine lv_iload_n hx hb dX7_counted_0 rfl (lv_at hl 1 rfl) ?_
  refine lv_tableIn (tgt := 169) hx hb dX7_counted_1 (by decide) (by decide) rfl (by decide) ?_
  refine lv_aload_n hx hb dX7_counted_169 rfl (lv_at hl 0 rfl) ?_
  refine va_get (D := D) (ci := 7) (v := .ref m1) (C := RX7) (T := TX7) (N := 12) hx hb hts hinX7 hown hK hP 0 rfl rfl 1 (by decide) (hts (.fieldLink RX7 7 "RibbonBalloonsModel" "s" "[I") (by decide +kernel)) (fun _ h9 => h9) rfl dX7_counted_170 ?_
  refine lv_iconst (v := 1) hx hb dX7_counted_173 (by decide) ?_
  refine lv_iload_n hx hb dX7_counted_174 rfl (lv_at hl 1 rfl) ?_
  refine lv_iadd hx hb dX7_counted_175 ?_
  refine lv_eqi (y := 5) (by decide) ?_
  refine lv_iconst (v := 3) hx hb dX7_counted_176 (by decide) ?_
  refine lv_isub hx hb dX7_counted_177 ?_
  refine lv_eqi (y := 2) (by decide) ?_
  refine r_iald hx hb hK hP 1 0 2 (f := enc B) rfl rfl (by omega) (by omega) dX7_counted_178 ?_
  refine hend (h) _ _ _ _ _ trivial ?_ hP hD hS dX7_counted_179
  exact enc_at0 B (i := 2) (by decide)

set_option maxHeartbeats 4000000 in
set_option maxRecDepth 100000 in
theorem c_X7_counted5 (l : Launch) (D : va_G) (cI cZ cS cJ : ClassId) (m0 : Nat) (m1 : Nat) (m2 : Nat) (m3 : Nat) (th : Int32) (kp : Int32) (ln : Int32) (ca : Int32) (lt : Int32) (fi : Int32) (sd : Int32) (hs : Int64) (B : Nat → Nat → Nat → Int32) (T : Nat → Int32) (h : Nat → Int32) (z : Nat) (hz6 : z ≤ 6) (hG : GB (B 0)) (h6 : B 0 6 = ht (B 0)) : CE (U := (Nat → Int32)) l yX7_counted wsX7_counted ({ frames := 5, cells := 0, slots := 0, locals := 113 }) D (tyL cI cZ cS cJ) [.ref m0, .int 5] (List.flatten [mdO m0 m1 m2 m3 th (nI z) kp ln ca lt fi sd hs, arC cI m1 1170 (enc B), arC cI m2 60 T, arC cI m3 8 h]) (fun u => True) (fun u => some (.int (cntS (B 0) z 5))) (fun u => List.flatten [mdO m0 m1 m2 m3 th (nI z) kp ln ca lt fi sd hs, arC cI m1 1170 (enc B), arC cI m2 60 T, arC cI m3 8 u]) 0 0 := by
  refine CE_int (cc := cX7_counted) (maxL := 2) (rt := .int) (by decide) rfl (Nat.le_of_ble_eq_true rfl) (fun _ _ => rfl) ?_
  intro p e s m below meth c A ls Q X hK hP hD hS hA hl hend
  have X : CallFix p m c cX7_counted 2 s ([.ref m0, .int 5] : List Value).toArray wsX7_counted RX7 := X
  obtain ⟨hx, hb, hml, hown, hts⟩ := id X
  have hl : lv_has ls 2 [(0, .ref m0), (1, .int 5)] := hl
  have hinX7 : ∀ w ∈ u_ws RX7 TX7 12, w ∈ wsX7_counted := by decide +kernel
  refine lv_iload_n hx hb dX7_counted_0 rfl (lv_at hl 1 rfl) ?_
  refine lv_tableIn (tgt := 169) hx hb dX7_counted_1 (by decide) (by decide) rfl (by decide) ?_
  refine lv_aload_n hx hb dX7_counted_169 rfl (lv_at hl 0 rfl) ?_
  refine va_get (D := D) (ci := 7) (v := .ref m1) (C := RX7) (T := TX7) (N := 12) hx hb hts hinX7 hown hK hP 0 rfl rfl 1 (by decide) (hts (.fieldLink RX7 7 "RibbonBalloonsModel" "s" "[I") (by decide +kernel)) (fun _ h9 => h9) rfl dX7_counted_170 ?_
  refine lv_iconst (v := 1) hx hb dX7_counted_173 (by decide) ?_
  refine lv_iload_n hx hb dX7_counted_174 rfl (lv_at hl 1 rfl) ?_
  refine lv_iadd hx hb dX7_counted_175 ?_
  refine lv_eqi (y := 6) (by decide) ?_
  refine lv_iconst (v := 3) hx hb dX7_counted_176 (by decide) ?_
  refine lv_isub hx hb dX7_counted_177 ?_
  refine lv_eqi (y := 3) (by decide) ?_
  refine r_iald hx hb hK hP 1 0 3 (f := enc B) rfl rfl (by omega) (by omega) dX7_counted_178 ?_
  refine hend (h) _ _ _ _ _ trivial ?_ hP hD hS dX7_counted_179
  exact enc_at0 B (i := 3) (by decide)

set_option maxHeartbeats 4000000 in
set_option maxRecDepth 100000 in
theorem c_X7_counted6 (l : Launch) (D : va_G) (cI cZ cS cJ : ClassId) (m0 : Nat) (m1 : Nat) (m2 : Nat) (m3 : Nat) (th : Int32) (kp : Int32) (ln : Int32) (ca : Int32) (lt : Int32) (fi : Int32) (sd : Int32) (hs : Int64) (B : Nat → Nat → Nat → Int32) (T : Nat → Int32) (h : Nat → Int32) (z : Nat) (hz6 : z ≤ 6) (hG : GB (B 0)) (h6 : B 0 6 = ht (B 0)) : CE (U := (Nat → Int32)) l yX7_counted wsX7_counted ({ frames := 5, cells := 0, slots := 0, locals := 113 }) D (tyL cI cZ cS cJ) [.ref m0, .int 6] (List.flatten [mdO m0 m1 m2 m3 th (nI z) kp ln ca lt fi sd hs, arC cI m1 1170 (enc B), arC cI m2 60 T, arC cI m3 8 h]) (fun u => True) (fun u => some (.int (cntS (B 0) z 6))) (fun u => List.flatten [mdO m0 m1 m2 m3 th (nI z) kp ln ca lt fi sd hs, arC cI m1 1170 (enc B), arC cI m2 60 T, arC cI m3 8 u]) 0 0 := by
  refine CE_int (cc := cX7_counted) (maxL := 2) (rt := .int) (by decide) rfl (Nat.le_of_ble_eq_true rfl) (fun _ _ => rfl) ?_
  intro p e s m below meth c A ls Q X hK hP hD hS hA hl hend
  have X : CallFix p m c cX7_counted 2 s ([.ref m0, .int 6] : List Value).toArray wsX7_counted RX7 := X
  obtain ⟨hx, hb, hml, hown, hts⟩ := id X
  have hl : lv_has ls 2 [(0, .ref m0), (1, .int 6)] := hl
  refine lv_iload_n hx hb dX7_counted_0 rfl (lv_at hl 1 rfl) ?_
  refine lv_tableIn (tgt := 113) hx hb dX7_counted_1 (by decide) (by decide) rfl (by decide) ?_
  refine lv_aload_n hx hb dX7_counted_113 rfl (lv_at hl 0 rfl) ?_
  refine kcallV (As := []) (rest := []) (Wn := [mdO m0 m1 m2 m3 th (nI z) kp ln ca lt fi sd hs, arC cI m1 1170 (enc B), arC cI m2 60 T, arC cI m3 8 h]) X (c_X7_tied l D cI cZ cS cJ m0 m1 m2 m3 th (nI z) kp ln ca lt fi sd hs B T h (GB_T hG)) (cwV 0 hts gX7_counted_X7_tied rfl rfl rfl (by decide +kernel) ⟨Nat.le_of_ble_eq_true rfl, Nat.le_of_ble_eq_true rfl⟩) hK hP hD hS hA [0, 1, 2, 3] rfl (by decide +kernel) rfl rfl rfl 0 7 rfl rfl rfl hl.1 rfl (Nat.le_of_ble_eq_true rfl) dX7_counted_114 ⟨Nat.le_of_ble_eq_true rfl, Nat.le_of_ble_eq_true rfl⟩ (fun H locs hP hD hS => ?_)
  refine hend (h) _ _ _ _ _ trivial ?_ hP hD hS dX7_counted_117
  exact rfl

set_option maxHeartbeats 4000000 in
set_option maxRecDepth 100000 in
theorem c_X7_counted7 (l : Launch) (D : va_G) (cI cZ cS cJ : ClassId) (m0 : Nat) (m1 : Nat) (m2 : Nat) (m3 : Nat) (th : Int32) (kp : Int32) (ln : Int32) (ca : Int32) (lt : Int32) (fi : Int32) (sd : Int32) (hs : Int64) (B : Nat → Nat → Nat → Int32) (T : Nat → Int32) (h : Nat → Int32) (z : Nat) (hz6 : z ≤ 6) (hG : GB (B 0)) (h6 : B 0 6 = ht (B 0)) : CE (U := (Nat → Int32)) l yX7_counted wsX7_counted ({ frames := 5, cells := 0, slots := 0, locals := 113 }) D (tyL cI cZ cS cJ) [.ref m0, .int 7] (List.flatten [mdO m0 m1 m2 m3 th (nI z) kp ln ca lt fi sd hs, arC cI m1 1170 (enc B), arC cI m2 60 T, arC cI m3 8 h]) (fun u => True) (fun u => some (.int (cntS (B 0) z 7))) (fun u => List.flatten [mdO m0 m1 m2 m3 th (nI z) kp ln ca lt fi sd hs, arC cI m1 1170 (enc B), arC cI m2 60 T, arC cI m3 8 u]) 0 0 := by
  refine CE_int (cc := cX7_counted) (maxL := 2) (rt := .int) (by decide) rfl (Nat.le_of_ble_eq_true rfl) (fun _ _ => rfl) ?_
  intro p e s m below meth c A ls Q X hK hP hD hS hA hl hend
  have X : CallFix p m c cX7_counted 2 s ([.ref m0, .int 7] : List Value).toArray wsX7_counted RX7 := X
  obtain ⟨hx, hb, hml, hown, hts⟩ := id X
  have hl : lv_has ls 2 [(0, .ref m0), (1, .int 7)] := hl
  have hinX7 : ∀ w ∈ u_ws RX7 TX7 12, w ∈ wsX7_counted := by decide +kernel
  refine lv_iload_n hx hb dX7_counted_0 rfl (lv_at hl 1 rfl) ?_
  refine lv_tableIn (tgt := 118) hx hb dX7_counted_1 (by decide) (by decide) rfl (by decide) ?_
  refine lv_aload_n hx hb dX7_counted_118 rfl (lv_at hl 0 rfl) ?_
  refine va_get (D := D) (ci := 7) (v := .ref m1) (C := RX7) (T := TX7) (N := 12) hx hb hts hinX7 hown hK hP 0 rfl rfl 1 (by decide) (hts (.fieldLink RX7 7 "RibbonBalloonsModel" "s" "[I") (by decide +kernel)) (fun _ h9 => h9) rfl dX7_counted_119 ?_
  refine lv_iconst (v := 4) hx hb dX7_counted_122 (by decide) ?_
  refine r_iald hx hb hK hP 1 0 4 (f := enc B) rfl rfl (by omega) (by omega) dX7_counted_123 ?_
  refine hend (h) _ _ _ _ _ trivial ?_ hP hD hS dX7_counted_124
  exact rfl

set_option maxHeartbeats 4000000 in
set_option maxRecDepth 100000 in
theorem c_X7_counted8 (l : Launch) (D : va_G) (cI cZ cS cJ : ClassId) (m0 : Nat) (m1 : Nat) (m2 : Nat) (m3 : Nat) (th : Int32) (kp : Int32) (ln : Int32) (ca : Int32) (lt : Int32) (fi : Int32) (sd : Int32) (hs : Int64) (B : Nat → Nat → Nat → Int32) (T : Nat → Int32) (h : Nat → Int32) (z : Nat) (hz6 : z ≤ 6) (hG : GB (B 0)) (h6 : B 0 6 = ht (B 0)) : CE (U := (Nat → Int32)) l yX7_counted wsX7_counted ({ frames := 5, cells := 0, slots := 0, locals := 113 }) D (tyL cI cZ cS cJ) [.ref m0, .int 8] (List.flatten [mdO m0 m1 m2 m3 th (nI z) kp ln ca lt fi sd hs, arC cI m1 1170 (enc B), arC cI m2 60 T, arC cI m3 8 h]) (fun u => True) (fun u => some (.int (cntS (B 0) z 8))) (fun u => List.flatten [mdO m0 m1 m2 m3 th (nI z) kp ln ca lt fi sd hs, arC cI m1 1170 (enc B), arC cI m2 60 T, arC cI m3 8 u]) 0 0 := by
  refine CE_int (cc := cX7_counted) (maxL := 2) (rt := .int) (by decide) rfl (Nat.le_of_ble_eq_true rfl) (fun _ _ => rfl) ?_
  intro p e s m below meth c A ls Q X hK hP hD hS hA hl hend
  have X : CallFix p m c cX7_counted 2 s ([.ref m0, .int 8] : List Value).toArray wsX7_counted RX7 := X
  obtain ⟨hx, hb, hml, hown, hts⟩ := id X
  have hl : lv_has ls 2 [(0, .ref m0), (1, .int 8)] := hl
  refine lv_iload_n hx hb dX7_counted_0 rfl (lv_at hl 1 rfl) ?_
  refine lv_tableIn (tgt := 125) hx hb dX7_counted_1 (by decide) (by decide) rfl (by decide) ?_
  refine lv_bipush (v := 8) hx hb dX7_counted_125 (by decide) ?_
  refine lv_aload_n hx hb dX7_counted_127 rfl (lv_at hl 0 rfl) ?_
  refine kcallV (As := []) (rest := [.int 8]) (Wn := [mdO m0 m1 m2 m3 th (nI z) kp ln ca lt fi sd hs, arC cI m1 1170 (enc B), arC cI m2 60 T, arC cI m3 8 h]) X (c_X7_tied l D cI cZ cS cJ m0 m1 m2 m3 th (nI z) kp ln ca lt fi sd hs B T h (GB_T hG)) (cwV 0 hts gX7_counted_X7_tied rfl rfl rfl (by decide +kernel) ⟨Nat.le_of_ble_eq_true rfl, Nat.le_of_ble_eq_true rfl⟩) hK hP hD hS hA [0, 1, 2, 3] rfl (by decide +kernel) rfl rfl rfl 0 7 rfl rfl rfl hl.1 rfl (Nat.le_of_ble_eq_true rfl) dX7_counted_128 ⟨Nat.le_of_ble_eq_true rfl, Nat.le_of_ble_eq_true rfl⟩ (fun H locs hP hD hS => ?_)
  refine lv_isub hx hb dX7_counted_131 ?_
  refine hend (h) _ _ _ _ _ trivial ?_ hP hD hS dX7_counted_132
  exact rfl

set_option maxHeartbeats 4000000 in
set_option maxRecDepth 100000 in
theorem c_X7_counted9 (l : Launch) (D : va_G) (cI cZ cS cJ : ClassId) (m0 : Nat) (m1 : Nat) (m2 : Nat) (m3 : Nat) (th : Int32) (kp : Int32) (ln : Int32) (ca : Int32) (lt : Int32) (fi : Int32) (sd : Int32) (hs : Int64) (B : Nat → Nat → Nat → Int32) (T : Nat → Int32) (h : Nat → Int32) (z : Nat) (hz6 : z ≤ 6) (hG : GB (B 0)) (h6 : B 0 6 = ht (B 0)) : CE (U := (Nat → Int32)) l yX7_counted wsX7_counted ({ frames := 5, cells := 0, slots := 0, locals := 113 }) D (tyL cI cZ cS cJ) [.ref m0, .int 9] (List.flatten [mdO m0 m1 m2 m3 th (nI z) kp ln ca lt fi sd hs, arC cI m1 1170 (enc B), arC cI m2 60 T, arC cI m3 8 h]) (fun u => True) (fun u => some (.int (cntS (B 0) z 9))) (fun u => List.flatten [mdO m0 m1 m2 m3 th (nI z) kp ln ca lt fi sd hs, arC cI m1 1170 (enc B), arC cI m2 60 T, arC cI m3 8 u]) 0 0 := by
  refine CE_int (cc := cX7_counted) (maxL := 2) (rt := .int) (by decide) rfl (Nat.le_of_ble_eq_true rfl) (fun _ _ => rfl) ?_
  intro p e s m below meth c A ls Q X hK hP hD hS hA hl hend
  have X : CallFix p m c cX7_counted 2 s ([.ref m0, .int 9] : List Value).toArray wsX7_counted RX7 := X
  obtain ⟨hx, hb, hml, hown, hts⟩ := id X
  have hl : lv_has ls 2 [(0, .ref m0), (1, .int 9)] := hl
  refine lv_iload_n hx hb dX7_counted_0 rfl (lv_at hl 1 rfl) ?_
  refine lv_tableIn (tgt := 133) hx hb dX7_counted_1 (by decide) (by decide) rfl (by decide) ?_
  refine lv_aload_n hx hb dX7_counted_133 rfl (lv_at hl 0 rfl) ?_
  refine lv_iconst (v := 0) hx hb dX7_counted_134 (by decide) ?_
  refine lv_eqi (y := nI (130 * 0)) (rfl) ?_
  refine kcallV (As := [.int (nI (130 * 0))]) (rest := []) (Wn := [mdO m0 m1 m2 m3 th (nI z) kp ln ca lt fi sd hs, arC cI m1 1170 (enc B), arC cI m2 60 T, arC cI m3 8 (ht (B 0))]) X (c_X7_allHeights l D cI cZ cS cJ m0 m1 m2 m3 th (nI z) kp ln ca lt fi sd hs B T h 0 (by omega) (GB_T hG)) (cwV 1 hts gX7_counted_X7_allHeights rfl rfl rfl (by decide +kernel) ⟨Nat.le_of_ble_eq_true rfl, Nat.le_of_ble_eq_true rfl⟩) hK hP hD hS hA [0, 1, 2, 3] rfl (by decide +kernel) rfl rfl rfl 0 7 rfl rfl rfl hl.1 rfl (Nat.le_of_ble_eq_true rfl) dX7_counted_135 ⟨Nat.le_of_ble_eq_true rfl, Nat.le_of_ble_eq_true rfl⟩ (fun H locs hP hD hS => ?_)
  refine hend (ht (B 0)) _ _ _ _ _ trivial ?_ hP hD hS dX7_counted_138
  exact cnt9 h6 z

set_option maxHeartbeats 4000000 in
set_option maxRecDepth 100000 in
theorem c_X7_counted10 (l : Launch) (D : va_G) (cI cZ cS cJ : ClassId) (m0 : Nat) (m1 : Nat) (m2 : Nat) (m3 : Nat) (th : Int32) (kp : Int32) (ln : Int32) (ca : Int32) (lt : Int32) (fi : Int32) (sd : Int32) (hs : Int64) (B : Nat → Nat → Nat → Int32) (T : Nat → Int32) (h : Nat → Int32) (z : Nat) (hz6 : z ≤ 6) (hG : GB (B 0)) (h6 : B 0 6 = ht (B 0)) : CE (U := (Nat → Int32)) l yX7_counted wsX7_counted ({ frames := 5, cells := 0, slots := 0, locals := 113 }) D (tyL cI cZ cS cJ) [.ref m0, .int 10] (List.flatten [mdO m0 m1 m2 m3 th (nI z) kp ln ca lt fi sd hs, arC cI m1 1170 (enc B), arC cI m2 60 T, arC cI m3 8 h]) (fun u => True) (fun u => some (.int (cntS (B 0) z 10))) (fun u => List.flatten [mdO m0 m1 m2 m3 th (nI z) kp ln ca lt fi sd hs, arC cI m1 1170 (enc B), arC cI m2 60 T, arC cI m3 8 u]) 0 0 := by
  refine CE_int (cc := cX7_counted) (maxL := 2) (rt := .int) (by decide) rfl (Nat.le_of_ble_eq_true rfl) (fun _ _ => rfl) ?_
  intro p e s m below meth c A ls Q X hK hP hD hS hA hl hend
  have X : CallFix p m c cX7_counted 2 s ([.ref m0, .int 10] : List Value).toArray wsX7_counted RX7 := X
  obtain ⟨hx, hb, hml, hown, hts⟩ := id X
  have hl : lv_has ls 2 [(0, .ref m0), (1, .int 10)] := hl
  refine lv_iload_n hx hb dX7_counted_0 rfl (lv_at hl 1 rfl) ?_
  refine lv_tableIn (tgt := 139) hx hb dX7_counted_1 (by decide) (by decide) rfl (by decide) ?_
  refine lv_aload_n hx hb dX7_counted_139 rfl (lv_at hl 0 rfl) ?_
  refine kcallVE (As := []) (rest := []) (Wn := fun u => [mdO m0 m1 m2 m3 th (nI z) kp ln ca lt fi sd hs, arC cI m1 1170 (enc B), arC cI m2 60 T, arC cI m3 8 u]) X (c_X7_highest l D cI cZ cS cJ m0 m1 m2 m3 th (nI z) kp ln ca lt fi sd hs B T h (GB_T hG)) (cwV 0 hts gX7_counted_X7_highest rfl rfl rfl (by decide +kernel) ⟨Nat.le_of_ble_eq_true rfl, Nat.le_of_ble_eq_true rfl⟩) hK hP hD hS hA [0, 1, 2, 3] rfl (by decide +kernel) (fun _ => rfl) (fun _ => rfl) (fun _ => rfl) 0 7 rfl rfl rfl hl.1 rfl (Nat.le_of_ble_eq_true rfl) dX7_counted_140 ⟨Nat.le_of_ble_eq_true rfl, Nat.le_of_ble_eq_true rfl⟩ (fun h9_1 H locs hu hP hD hS => ?_)
  have hP : va_P D vwCl (List.flatten [mdO m0 m1 m2 m3 th (nI z) kp ln ca lt fi sd hs, arC cI m1 1170 (enc B), arC cI m2 60 T, arC cI m3 8 h9_1]) _ := hP
  have hD : va_D A (List.flatten [mdO m0 m1 m2 m3 th (nI z) kp ln ca lt fi sd hs, arC cI m1 1170 (enc B), arC cI m2 60 T, arC cI m3 8 h9_1]) := hD
  refine hend (h9_1) _ _ _ _ _ trivial ?_ hP hD hS dX7_counted_143
  exact cnt10 h6 z

set_option maxHeartbeats 4000000 in
set_option maxRecDepth 100000 in
theorem c_X7_counted11 (l : Launch) (D : va_G) (cI cZ cS cJ : ClassId) (m0 : Nat) (m1 : Nat) (m2 : Nat) (m3 : Nat) (th : Int32) (kp : Int32) (ln : Int32) (ca : Int32) (lt : Int32) (fi : Int32) (sd : Int32) (hs : Int64) (B : Nat → Nat → Nat → Int32) (T : Nat → Int32) (h : Nat → Int32) (z : Nat) (hz6 : z ≤ 6) (hG : GB (B 0)) (h6 : B 0 6 = ht (B 0)) : CE (U := (Nat → Int32)) l yX7_counted wsX7_counted ({ frames := 5, cells := 0, slots := 0, locals := 113 }) D (tyL cI cZ cS cJ) [.ref m0, .int 11] (List.flatten [mdO m0 m1 m2 m3 th (nI z) kp ln ca lt fi sd hs, arC cI m1 1170 (enc B), arC cI m2 60 T, arC cI m3 8 h]) (fun u => True) (fun u => some (.int (cntS (B 0) z 11))) (fun u => List.flatten [mdO m0 m1 m2 m3 th (nI z) kp ln ca lt fi sd hs, arC cI m1 1170 (enc B), arC cI m2 60 T, arC cI m3 8 u]) 0 0 := by
  refine CE_int (cc := cX7_counted) (maxL := 2) (rt := .int) (by decide) rfl (Nat.le_of_ble_eq_true rfl) (fun _ _ => rfl) ?_
  intro p e s m below meth c A ls Q X hK hP hD hS hA hl hend
  have X : CallFix p m c cX7_counted 2 s ([.ref m0, .int 11] : List Value).toArray wsX7_counted RX7 := X
  obtain ⟨hx, hb, hml, hown, hts⟩ := id X
  have hl : lv_has ls 2 [(0, .ref m0), (1, .int 11)] := hl
  refine lv_iload_n hx hb dX7_counted_0 rfl (lv_at hl 1 rfl) ?_
  refine lv_tableIn (tgt := 144) hx hb dX7_counted_1 (by decide) (by decide) rfl (by decide) ?_
  refine lv_aload_n hx hb dX7_counted_144 rfl (lv_at hl 0 rfl) ?_
  refine kcallVE (As := []) (rest := []) (Wn := fun u => [mdO m0 m1 m2 m3 th (nI z) kp ln ca lt fi sd hs, arC cI m1 1170 (enc B), arC cI m2 60 T, arC cI m3 8 u]) X (c_X7_grounded l D cI cZ cS cJ m0 m1 m2 m3 th (nI z) kp ln ca lt fi sd hs B T h (GB_T hG)) (cwV 0 hts gX7_counted_X7_grounded rfl rfl rfl (by decide +kernel) ⟨Nat.le_of_ble_eq_true rfl, Nat.le_of_ble_eq_true rfl⟩) hK hP hD hS hA [0, 1, 2, 3] rfl (by decide +kernel) (fun _ => rfl) (fun _ => rfl) (fun _ => rfl) 0 7 rfl rfl rfl hl.1 rfl (Nat.le_of_ble_eq_true rfl) dX7_counted_145 ⟨Nat.le_of_ble_eq_true rfl, Nat.le_of_ble_eq_true rfl⟩ (fun h9_1 H locs hu hP hD hS => ?_)
  have hP : va_P D vwCl (List.flatten [mdO m0 m1 m2 m3 th (nI z) kp ln ca lt fi sd hs, arC cI m1 1170 (enc B), arC cI m2 60 T, arC cI m3 8 h9_1]) _ := hP
  have hD : va_D A (List.flatten [mdO m0 m1 m2 m3 th (nI z) kp ln ca lt fi sd hs, arC cI m1 1170 (enc B), arC cI m2 60 T, arC cI m3 8 h9_1]) := hD
  refine hend (h9_1) _ _ _ _ _ trivial ?_ hP hD hS dX7_counted_148
  exact cnt11 h6 z

set_option maxHeartbeats 4000000 in
set_option maxRecDepth 100000 in
theorem c_X7_counted12 (l : Launch) (D : va_G) (cI cZ cS cJ : ClassId) (m0 : Nat) (m1 : Nat) (m2 : Nat) (m3 : Nat) (th : Int32) (kp : Int32) (ln : Int32) (ca : Int32) (lt : Int32) (fi : Int32) (sd : Int32) (hs : Int64) (B : Nat → Nat → Nat → Int32) (T : Nat → Int32) (h : Nat → Int32) (z : Nat) (hz6 : z ≤ 6) (hG : GB (B 0)) (h6 : B 0 6 = ht (B 0)) : CE (U := (Nat → Int32)) l yX7_counted wsX7_counted ({ frames := 5, cells := 0, slots := 0, locals := 113 }) D (tyL cI cZ cS cJ) [.ref m0, .int 12] (List.flatten [mdO m0 m1 m2 m3 th (nI z) kp ln ca lt fi sd hs, arC cI m1 1170 (enc B), arC cI m2 60 T, arC cI m3 8 h]) (fun u => True) (fun u => some (.int (cntS (B 0) z 12))) (fun u => List.flatten [mdO m0 m1 m2 m3 th (nI z) kp ln ca lt fi sd hs, arC cI m1 1170 (enc B), arC cI m2 60 T, arC cI m3 8 u]) 0 0 := by
  refine CE_int (cc := cX7_counted) (maxL := 2) (rt := .int) (by decide) rfl (Nat.le_of_ble_eq_true rfl) (fun _ _ => rfl) ?_
  intro p e s m below meth c A ls Q X hK hP hD hS hA hl hend
  have X : CallFix p m c cX7_counted 2 s ([.ref m0, .int 12] : List Value).toArray wsX7_counted RX7 := X
  obtain ⟨hx, hb, hml, hown, hts⟩ := id X
  have hl : lv_has ls 2 [(0, .ref m0), (1, .int 12)] := hl
  have hinX7 : ∀ w ∈ u_ws RX7 TX7 12, w ∈ wsX7_counted := by decide +kernel
  refine lv_iload_n hx hb dX7_counted_0 rfl (lv_at hl 1 rfl) ?_
  refine lv_tableIn (tgt := 149) hx hb dX7_counted_1 (by decide) (by decide) rfl (by decide) ?_
  refine lv_aload_n hx hb dX7_counted_149 rfl (lv_at hl 0 rfl) ?_
  refine va_get (D := D) (ci := 7) (v := .ref m1) (C := RX7) (T := TX7) (N := 12) hx hb hts hinX7 hown hK hP 0 rfl rfl 1 (by decide) (hts (.fieldLink RX7 7 "RibbonBalloonsModel" "s" "[I") (by decide +kernel)) (fun _ h9 => h9) rfl dX7_counted_150 ?_
  refine lv_iconst (v := 5) hx hb dX7_counted_153 (by decide) ?_
  refine r_iald hx hb hK hP 1 0 5 (f := enc B) rfl rfl (by omega) (by omega) dX7_counted_154 ?_
  refine hend (h) _ _ _ _ _ trivial ?_ hP hD hS dX7_counted_155
  exact enc_at0 B (i := 5) (by decide)

set_option maxHeartbeats 4000000 in
set_option maxRecDepth 100000 in
theorem c_X7_counted13 (l : Launch) (D : va_G) (cI cZ cS cJ : ClassId) (m0 : Nat) (m1 : Nat) (m2 : Nat) (m3 : Nat) (th : Int32) (kp : Int32) (ln : Int32) (ca : Int32) (lt : Int32) (fi : Int32) (sd : Int32) (hs : Int64) (B : Nat → Nat → Nat → Int32) (T : Nat → Int32) (h : Nat → Int32) (z : Nat) (hz6 : z ≤ 6) (hG : GB (B 0)) (h6 : B 0 6 = ht (B 0)) : CE (U := (Nat → Int32)) l yX7_counted wsX7_counted ({ frames := 5, cells := 0, slots := 0, locals := 113 }) D (tyL cI cZ cS cJ) [.ref m0, .int 13] (List.flatten [mdO m0 m1 m2 m3 th (nI z) kp ln ca lt fi sd hs, arC cI m1 1170 (enc B), arC cI m2 60 T, arC cI m3 8 h]) (fun u => True) (fun u => some (.int (cntS (B 0) z 13))) (fun u => List.flatten [mdO m0 m1 m2 m3 th (nI z) kp ln ca lt fi sd hs, arC cI m1 1170 (enc B), arC cI m2 60 T, arC cI m3 8 u]) 0 0 := by
  refine CE_int (cc := cX7_counted) (maxL := 2) (rt := .int) (by decide) rfl (Nat.le_of_ble_eq_true rfl) (fun _ _ => rfl) ?_
  intro p e s m below meth c A ls Q X hK hP hD hS hA hl hend
  have X : CallFix p m c cX7_counted 2 s ([.ref m0, .int 13] : List Value).toArray wsX7_counted RX7 := X
  obtain ⟨hx, hb, hml, hown, hts⟩ := id X
  have hl : lv_has ls 2 [(0, .ref m0), (1, .int 13)] := hl
  have hinX7 : ∀ w ∈ u_ws RX7 TX7 12, w ∈ wsX7_counted := by decide +kernel
  refine lv_iload_n hx hb dX7_counted_0 rfl (lv_at hl 1 rfl) ?_
  refine lv_tableIn (tgt := 156) hx hb dX7_counted_1 (by decide) (by decide) rfl (by decide) ?_
  refine lv_aload_n hx hb dX7_counted_156 rfl (lv_at hl 0 rfl) ?_
  refine va_get (D := D) (ci := 7) (v := .ref m1) (C := RX7) (T := TX7) (N := 12) hx hb hts hinX7 hown hK hP 0 rfl rfl 1 (by decide) (hts (.fieldLink RX7 7 "RibbonBalloonsModel" "s" "[I") (by decide +kernel)) (fun _ h9 => h9) rfl dX7_counted_157 ?_
  refine lv_bipush (v := 8) hx hb dX7_counted_160 (by decide) ?_
  refine r_iald hx hb hK hP 1 0 8 (f := enc B) rfl rfl (by omega) (by omega) dX7_counted_162 ?_
  refine hend (h) _ _ _ _ _ trivial ?_ hP hD hS dX7_counted_163
  exact enc_at0 B (i := 8) (by decide)

set_option maxHeartbeats 4000000 in
set_option maxRecDepth 100000 in
theorem c_X7_counted14 (l : Launch) (D : va_G) (cI cZ cS cJ : ClassId) (m0 : Nat) (m1 : Nat) (m2 : Nat) (m3 : Nat) (th : Int32) (kp : Int32) (ln : Int32) (ca : Int32) (lt : Int32) (fi : Int32) (sd : Int32) (hs : Int64) (B : Nat → Nat → Nat → Int32) (T : Nat → Int32) (h : Nat → Int32) (z : Nat) (hz6 : z ≤ 6) (hG : GB (B 0)) (h6 : B 0 6 = ht (B 0)) : CE (U := (Nat → Int32)) l yX7_counted wsX7_counted ({ frames := 5, cells := 0, slots := 0, locals := 113 }) D (tyL cI cZ cS cJ) [.ref m0, .int 14] (List.flatten [mdO m0 m1 m2 m3 th (nI z) kp ln ca lt fi sd hs, arC cI m1 1170 (enc B), arC cI m2 60 T, arC cI m3 8 h]) (fun u => True) (fun u => some (.int (cntS (B 0) z 14))) (fun u => List.flatten [mdO m0 m1 m2 m3 th (nI z) kp ln ca lt fi sd hs, arC cI m1 1170 (enc B), arC cI m2 60 T, arC cI m3 8 u]) 0 0 := by
  refine CE_int (cc := cX7_counted) (maxL := 2) (rt := .int) (by decide) rfl (Nat.le_of_ble_eq_true rfl) (fun _ _ => rfl) ?_
  intro p e s m below meth c A ls Q X hK hP hD hS hA hl hend
  have X : CallFix p m c cX7_counted 2 s ([.ref m0, .int 14] : List Value).toArray wsX7_counted RX7 := X
  obtain ⟨hx, hb, hml, hown, hts⟩ := id X
  have hl : lv_has ls 2 [(0, .ref m0), (1, .int 14)] := hl
  have hinX7 : ∀ w ∈ u_ws RX7 TX7 12, w ∈ wsX7_counted := by decide +kernel
  refine lv_iload_n hx hb dX7_counted_0 rfl (lv_at hl 1 rfl) ?_
  refine lv_tableIn (tgt := 164) hx hb dX7_counted_1 (by decide) (by decide) rfl (by decide) ?_
  refine lv_aload_n hx hb dX7_counted_164 rfl (lv_at hl 0 rfl) ?_
  refine va_get (D := D) (ci := 7) (v := .int (nI z)) (C := RX7) (T := TX7) (N := 12) hx hb hts hinX7 hown hK hP 0 rfl rfl 2 (by decide) (hts (.fieldLink RX7 78 "RibbonBalloonsModel" "saved" "I") (by decide +kernel)) (fun _ h9 => h9) rfl dX7_counted_165 ?_
  refine hend (h) _ _ _ _ _ trivial ?_ hP hD hS dX7_counted_168
  exact rfl

set_option maxHeartbeats 4000000 in
set_option maxRecDepth 100000 in
theorem c_X7_counted (l : Launch) (D : va_G) (cI cZ cS cJ : ClassId) (m0 : Nat) (m1 : Nat) (m2 : Nat) (m3 : Nat) (th : Int32) (kp : Int32) (ln : Int32) (ca : Int32) (lt : Int32) (fi : Int32) (sd : Int32) (hs : Int64) (B : Nat → Nat → Nat → Int32) (T : Nat → Int32) (h : Nat → Int32) (z : Nat) (w : Nat) (hz6 : z ≤ 6) (hG : GB (B 0)) (h6 : B 0 6 = ht (B 0)) (hw : w < 15) : CE (U := (Nat → Int32)) l yX7_counted wsX7_counted ({ frames := 5, cells := 0, slots := 0, locals := 113 }) D (tyL cI cZ cS cJ) [.ref m0, .int (nI w)] (List.flatten [mdO m0 m1 m2 m3 th (nI z) kp ln ca lt fi sd hs, arC cI m1 1170 (enc B), arC cI m2 60 T, arC cI m3 8 h]) (fun u => True) (fun u => some (.int (cntS (B 0) z w))) (fun u => List.flatten [mdO m0 m1 m2 m3 th (nI z) kp ln ca lt fi sd hs, arC cI m1 1170 (enc B), arC cI m2 60 T, arC cI m3 8 u]) 0 0 := by
  rcases (show w = 0 ∨ w = 1 ∨ w = 2 ∨ w = 3 ∨ w = 4 ∨ w = 5 ∨ w = 6 ∨ w = 7 ∨ w = 8 ∨ w = 9 ∨ w = 10 ∨ w = 11 ∨ w = 12 ∨ w = 13 ∨ w = 14 by omega) with rfl | rfl | rfl | rfl | rfl | rfl | rfl | rfl | rfl | rfl | rfl | rfl | rfl | rfl | rfl
  · exact c_X7_counted0 l D cI cZ cS cJ m0 m1 m2 m3 th kp ln ca lt fi sd hs B T h z hz6 hG h6
  · exact c_X7_counted1 l D cI cZ cS cJ m0 m1 m2 m3 th kp ln ca lt fi sd hs B T h z hz6 hG h6
  · exact c_X7_counted2 l D cI cZ cS cJ m0 m1 m2 m3 th kp ln ca lt fi sd hs B T h z hz6 hG h6
  · exact c_X7_counted3 l D cI cZ cS cJ m0 m1 m2 m3 th kp ln ca lt fi sd hs B T h z hz6 hG h6
  · exact c_X7_counted4 l D cI cZ cS cJ m0 m1 m2 m3 th kp ln ca lt fi sd hs B T h z hz6 hG h6
  · exact c_X7_counted5 l D cI cZ cS cJ m0 m1 m2 m3 th kp ln ca lt fi sd hs B T h z hz6 hG h6
  · exact c_X7_counted6 l D cI cZ cS cJ m0 m1 m2 m3 th kp ln ca lt fi sd hs B T h z hz6 hG h6
  · exact c_X7_counted7 l D cI cZ cS cJ m0 m1 m2 m3 th kp ln ca lt fi sd hs B T h z hz6 hG h6
  · exact c_X7_counted8 l D cI cZ cS cJ m0 m1 m2 m3 th kp ln ca lt fi sd hs B T h z hz6 hG h6
  · exact c_X7_counted9 l D cI cZ cS cJ m0 m1 m2 m3 th kp ln ca lt fi sd hs B T h z hz6 hG h6
  · exact c_X7_counted10 l D cI cZ cS cJ m0 m1 m2 m3 th kp ln ca lt fi sd hs B T h z hz6 hG h6
  · exact c_X7_counted11 l D cI cZ cS cJ m0 m1 m2 m3 th kp ln ca lt fi sd hs B T h z hz6 hG h6
  · exact c_X7_counted12 l D cI cZ cS cJ m0 m1 m2 m3 th kp ln ca lt fi sd hs B T h z hz6 hG h6
  · exact c_X7_counted13 l D cI cZ cS cJ m0 m1 m2 m3 th kp ln ca lt fi sd hs B T h z hz6 hG h6
  · exact c_X7_counted14 l D cI cZ cS cJ m0 m1 m2 m3 th kp ln ca lt fi sd hs B T h z hz6 hG h6

set_option maxHeartbeats 4000000 in
set_option maxRecDepth 100000 in
theorem c_X7_reason0 (l : Launch) (D : va_G) (cI cZ cS cJ : ClassId) (m0 : Nat) (m1 : Nat) (m2 : Nat) (m3 : Nat) (th : Int32) (sv : Int32) (kp : Int32) (ln : Int32) (ca : Int32) (lt : Int32) (fi : Int32) (sd : Int32) (hs : Int64) (B : Nat → Nat → Nat → Int32) (T : Nat → Int32) (h : Nat → Int32) (k : Nat) (hk8 : k < 8) (hG : GB (B 0)) (h6 : B 0 6 = ht (B 0)) : CE (U := (Nat → Int32)) l yX7_reason wsX7_reason ({ frames := 6, cells := 0, slots := 0, locals := 133 }) D (tyL cI cZ cS cJ) [.ref m0, .int (nI k), .int 0] (List.flatten [mdO m0 m1 m2 m3 th sv kp ln ca lt fi sd hs, arC cI m1 1170 (enc B), arC cI m2 60 T, arC cI m3 8 h]) (fun u => True) (fun u => some (.int (whyS (B 0) k 0))) (fun u => List.flatten [mdO m0 m1 m2 m3 th sv kp ln ca lt fi sd hs, arC cI m1 1170 (enc B), arC cI m2 60 T, arC cI m3 8 u]) 0 0 := by
  refine CE_int (cc := cX7_reason) (maxL := 3) (rt := .int) (by decide) rfl (Nat.le_of_ble_eq_true rfl) (fun _ _ => rfl) ?_
  intro p e s m below meth c A ls Q X hK hP hD hS hA hl hend
  have X : CallFix p m c cX7_reason 3 s ([.ref m0, .int (nI k), .int 0] : List Value).toArray wsX7_reason RX7 := X
  obtain ⟨hx, hb, hml, hown, hts⟩ := id X
  have hl : lv_has ls 3 [(0, .ref m0), (1, .int (nI k)), (2, .int 0)] := hl
  refine lv_iload_n hx hb dX7_reason_0 rfl (lv_at hl 2 rfl) ?_
  refine lv_tableIn (tgt := 36) hx hb dX7_reason_1 (by decide) (by decide) rfl (by decide) ?_
  refine lv_aload_n hx hb dX7_reason_36 rfl (lv_at hl 0 rfl) ?_
  refine lv_iload_n hx hb dX7_reason_37 rfl (lv_at hl 1 rfl) ?_
  refine lv_iconst (v := 1) hx hb dX7_reason_38 (by decide) ?_
  refine kcallV (As := [.int (nI k), .int 1]) (rest := []) (Wn := [mdO m0 m1 m2 m3 th sv kp ln ca lt fi sd hs, arC cI m1 1170 (enc B), arC cI m2 60 T, arC cI m3 8 (if 200 < B 0 0 k + 1 then h else ht (B 0))]) X (c_X7_noFill l D cI cZ cS cJ m0 m1 m2 m3 th sv kp ln ca lt fi sd hs B T h k 1 (by omega) (GB_T hG)) (cwV 2 hts gX7_reason_X7_noFill rfl rfl rfl (by decide +kernel) ⟨Nat.le_of_ble_eq_true rfl, Nat.le_of_ble_eq_true rfl⟩) hK hP hD hS hA [0, 1, 2, 3] rfl (by decide +kernel) rfl rfl rfl 0 7 rfl rfl rfl hl.1 rfl (Nat.le_of_ble_eq_true rfl) dX7_reason_39 ⟨Nat.le_of_ble_eq_true rfl, Nat.le_of_ble_eq_true rfl⟩ (fun H locs hP hD hS => ?_)
  refine lv_eqi (y := wn0 (B 0) k 1) (by rw [mend_id h6]) ?_
  refine hend ((if 200 < B 0 0 k + 1 then h else ht (B 0))) _ _ _ _ _ trivial ?_ hP hD hS dX7_reason_42
  exact rfl

set_option maxHeartbeats 4000000 in
set_option maxRecDepth 100000 in
theorem c_X7_reason1 (l : Launch) (D : va_G) (cI cZ cS cJ : ClassId) (m0 : Nat) (m1 : Nat) (m2 : Nat) (m3 : Nat) (th : Int32) (sv : Int32) (kp : Int32) (ln : Int32) (ca : Int32) (lt : Int32) (fi : Int32) (sd : Int32) (hs : Int64) (B : Nat → Nat → Nat → Int32) (T : Nat → Int32) (h : Nat → Int32) (k : Nat) (hk8 : k < 8) (hG : GB (B 0)) (h6 : B 0 6 = ht (B 0)) : CE (U := (Nat → Int32)) l yX7_reason wsX7_reason ({ frames := 6, cells := 0, slots := 0, locals := 133 }) D (tyL cI cZ cS cJ) [.ref m0, .int (nI k), .int 1] (List.flatten [mdO m0 m1 m2 m3 th sv kp ln ca lt fi sd hs, arC cI m1 1170 (enc B), arC cI m2 60 T, arC cI m3 8 h]) (fun u => True) (fun u => some (.int (whyS (B 0) k 1))) (fun u => List.flatten [mdO m0 m1 m2 m3 th sv kp ln ca lt fi sd hs, arC cI m1 1170 (enc B), arC cI m2 60 T, arC cI m3 8 u]) 0 0 := by
  refine CE_int (cc := cX7_reason) (maxL := 3) (rt := .int) (by decide) rfl (Nat.le_of_ble_eq_true rfl) (fun _ _ => rfl) ?_
  intro p e s m below meth c A ls Q X hK hP hD hS hA hl hend
  have X : CallFix p m c cX7_reason 3 s ([.ref m0, .int (nI k), .int 1] : List Value).toArray wsX7_reason RX7 := X
  obtain ⟨hx, hb, hml, hown, hts⟩ := id X
  have hl : lv_has ls 3 [(0, .ref m0), (1, .int (nI k)), (2, .int 1)] := hl
  refine lv_iload_n hx hb dX7_reason_0 rfl (lv_at hl 2 rfl) ?_
  refine lv_tableIn (tgt := 43) hx hb dX7_reason_1 (by decide) (by decide) rfl (by decide) ?_
  refine lv_aload_n hx hb dX7_reason_43 rfl (lv_at hl 0 rfl) ?_
  refine lv_iload_n hx hb dX7_reason_44 rfl (lv_at hl 1 rfl) ?_
  refine lv_iconst (v := 1) hx hb dX7_reason_45 (by decide) ?_
  refine kcallV (As := [.int (nI k), .int 1]) (rest := []) (Wn := [mdO m0 m1 m2 m3 th sv kp ln ca lt fi sd hs, arC cI m1 1170 (enc B), arC cI m2 60 T, arC cI m3 8 h]) X (c_X7_noVent l D cI cZ cS cJ m0 m1 m2 m3 th sv kp ln ca lt fi sd hs B T h k 1 (by omega)) (cwV 2 hts gX7_reason_X7_noVent rfl rfl rfl (by decide +kernel) ⟨Nat.le_of_ble_eq_true rfl, Nat.le_of_ble_eq_true rfl⟩) hK hP hD hS hA [0, 1, 2, 3] rfl (by decide +kernel) rfl rfl rfl 0 7 rfl rfl rfl hl.1 rfl (Nat.le_of_ble_eq_true rfl) dX7_reason_46 ⟨Nat.le_of_ble_eq_true rfl, Nat.le_of_ble_eq_true rfl⟩ (fun H locs hP hD hS => ?_)
  refine hend (h) _ _ _ _ _ trivial ?_ hP hD hS dX7_reason_49
  exact rfl

set_option maxHeartbeats 4000000 in
set_option maxRecDepth 100000 in
theorem c_X7_reason2 (l : Launch) (D : va_G) (cI cZ cS cJ : ClassId) (m0 : Nat) (m1 : Nat) (m2 : Nat) (m3 : Nat) (th : Int32) (sv : Int32) (kp : Int32) (ln : Int32) (ca : Int32) (lt : Int32) (fi : Int32) (sd : Int32) (hs : Int64) (B : Nat → Nat → Nat → Int32) (T : Nat → Int32) (h : Nat → Int32) (k : Nat) (hk8 : k < 8) (hG : GB (B 0)) (h6 : B 0 6 = ht (B 0)) : CE (U := (Nat → Int32)) l yX7_reason wsX7_reason ({ frames := 6, cells := 0, slots := 0, locals := 133 }) D (tyL cI cZ cS cJ) [.ref m0, .int (nI k), .int 2] (List.flatten [mdO m0 m1 m2 m3 th sv kp ln ca lt fi sd hs, arC cI m1 1170 (enc B), arC cI m2 60 T, arC cI m3 8 h]) (fun u => True) (fun u => some (.int (whyS (B 0) k 2))) (fun u => List.flatten [mdO m0 m1 m2 m3 th sv kp ln ca lt fi sd hs, arC cI m1 1170 (enc B), arC cI m2 60 T, arC cI m3 8 u]) 0 0 := by
  refine CE_int (cc := cX7_reason) (maxL := 3) (rt := .int) (by decide) rfl (Nat.le_of_ble_eq_true rfl) (fun _ _ => rfl) ?_
  intro p e s m below meth c A ls Q X hK hP hD hS hA hl hend
  have X : CallFix p m c cX7_reason 3 s ([.ref m0, .int (nI k), .int 2] : List Value).toArray wsX7_reason RX7 := X
  obtain ⟨hx, hb, hml, hown, hts⟩ := id X
  have hl : lv_has ls 3 [(0, .ref m0), (1, .int (nI k)), (2, .int 2)] := hl
  refine lv_iload_n hx hb dX7_reason_0 rfl (lv_at hl 2 rfl) ?_
  refine lv_tableIn (tgt := 50) hx hb dX7_reason_1 (by decide) (by decide) rfl (by decide) ?_
  refine lv_aload_n hx hb dX7_reason_50 rfl (lv_at hl 0 rfl) ?_
  refine lv_iload_n hx hb dX7_reason_51 rfl (lv_at hl 1 rfl) ?_
  refine kcallV (As := [.int (nI k)]) (rest := []) (Wn := [mdO m0 m1 m2 m3 th sv kp ln ca lt fi sd hs, arC cI m1 1170 (enc B), arC cI m2 60 T, arC cI m3 8 h]) X (c_X7_noDrop l D cI cZ cS cJ m0 m1 m2 m3 th sv kp ln ca lt fi sd hs B T h k (by omega)) (cwV 1 hts gX7_reason_X7_noDrop rfl rfl rfl (by decide +kernel) ⟨Nat.le_of_ble_eq_true rfl, Nat.le_of_ble_eq_true rfl⟩) hK hP hD hS hA [0, 1, 2, 3] rfl (by decide +kernel) rfl rfl rfl 0 7 rfl rfl rfl hl.1 rfl (Nat.le_of_ble_eq_true rfl) dX7_reason_52 ⟨Nat.le_of_ble_eq_true rfl, Nat.le_of_ble_eq_true rfl⟩ (fun H locs hP hD hS => ?_)
  refine hend (h) _ _ _ _ _ trivial ?_ hP hD hS dX7_reason_55
  exact rfl

set_option maxHeartbeats 4000000 in
set_option maxRecDepth 100000 in
theorem c_X7_reason3 (l : Launch) (D : va_G) (cI cZ cS cJ : ClassId) (m0 : Nat) (m1 : Nat) (m2 : Nat) (m3 : Nat) (th : Int32) (sv : Int32) (kp : Int32) (ln : Int32) (ca : Int32) (lt : Int32) (fi : Int32) (sd : Int32) (hs : Int64) (B : Nat → Nat → Nat → Int32) (T : Nat → Int32) (h : Nat → Int32) (k : Nat) (hk8 : k < 8) (hG : GB (B 0)) (h6 : B 0 6 = ht (B 0)) : CE (U := (Nat → Int32)) l yX7_reason wsX7_reason ({ frames := 6, cells := 0, slots := 0, locals := 133 }) D (tyL cI cZ cS cJ) [.ref m0, .int (nI k), .int 3] (List.flatten [mdO m0 m1 m2 m3 th sv kp ln ca lt fi sd hs, arC cI m1 1170 (enc B), arC cI m2 60 T, arC cI m3 8 h]) (fun u => True) (fun u => some (.int (whyS (B 0) k 3))) (fun u => List.flatten [mdO m0 m1 m2 m3 th sv kp ln ca lt fi sd hs, arC cI m1 1170 (enc B), arC cI m2 60 T, arC cI m3 8 u]) 0 0 := by
  refine CE_int (cc := cX7_reason) (maxL := 3) (rt := .int) (by decide) rfl (Nat.le_of_ble_eq_true rfl) (fun _ _ => rfl) ?_
  intro p e s m below meth c A ls Q X hK hP hD hS hA hl hend
  have X : CallFix p m c cX7_reason 3 s ([.ref m0, .int (nI k), .int 3] : List Value).toArray wsX7_reason RX7 := X
  obtain ⟨hx, hb, hml, hown, hts⟩ := id X
  have hl : lv_has ls 3 [(0, .ref m0), (1, .int (nI k)), (2, .int 3)] := hl
  refine lv_iload_n hx hb dX7_reason_0 rfl (lv_at hl 2 rfl) ?_
  refine lv_tableIn (tgt := 56) hx hb dX7_reason_1 (by decide) (by decide) rfl (by decide) ?_
  refine lv_aload_n hx hb dX7_reason_56 rfl (lv_at hl 0 rfl) ?_
  refine lv_iload_n hx hb dX7_reason_57 rfl (lv_at hl 1 rfl) ?_
  refine kcallVE (As := [.int (nI k)]) (rest := []) (Wn := fun u => [mdO m0 m1 m2 m3 th sv kp ln ca lt fi sd hs, arC cI m1 1170 (enc B), arC cI m2 60 T, arC cI m3 8 u]) X (c_X7_noPut l D cI cZ cS cJ m0 m1 m2 m3 th sv kp ln ca lt fi sd hs B T h k (by omega) hG h6) (cwV 1 hts gX7_reason_X7_noPut rfl rfl rfl (by decide +kernel) ⟨Nat.le_of_ble_eq_true rfl, Nat.le_of_ble_eq_true rfl⟩) hK hP hD hS hA [0, 1, 2, 3] rfl (by decide +kernel) (fun _ => rfl) (fun _ => rfl) (fun _ => rfl) 0 7 rfl rfl rfl hl.1 rfl (Nat.le_of_ble_eq_true rfl) dX7_reason_58 ⟨Nat.le_of_ble_eq_true rfl, Nat.le_of_ble_eq_true rfl⟩ (fun h9_1 H locs hu hP hD hS => ?_)
  have hP : va_P D vwCl (List.flatten [mdO m0 m1 m2 m3 th sv kp ln ca lt fi sd hs, arC cI m1 1170 (enc B), arC cI m2 60 T, arC cI m3 8 h9_1]) _ := hP
  have hD : va_D A (List.flatten [mdO m0 m1 m2 m3 th sv kp ln ca lt fi sd hs, arC cI m1 1170 (enc B), arC cI m2 60 T, arC cI m3 8 h9_1]) := hD
  refine hend (h9_1) _ _ _ _ _ trivial ?_ hP hD hS dX7_reason_61
  exact rfl

set_option maxHeartbeats 4000000 in
set_option maxRecDepth 100000 in
theorem c_X7_reason4 (l : Launch) (D : va_G) (cI cZ cS cJ : ClassId) (m0 : Nat) (m1 : Nat) (m2 : Nat) (m3 : Nat) (th : Int32) (sv : Int32) (kp : Int32) (ln : Int32) (ca : Int32) (lt : Int32) (fi : Int32) (sd : Int32) (hs : Int64) (B : Nat → Nat → Nat → Int32) (T : Nat → Int32) (h : Nat → Int32) (k : Nat) (hk8 : k < 8) (hG : GB (B 0)) (h6 : B 0 6 = ht (B 0)) (h7 : k < 7) : CE (U := (Nat → Int32)) l yX7_reason wsX7_reason ({ frames := 6, cells := 0, slots := 0, locals := 133 }) D (tyL cI cZ cS cJ) [.ref m0, .int (nI k), .int 4] (List.flatten [mdO m0 m1 m2 m3 th sv kp ln ca lt fi sd hs, arC cI m1 1170 (enc B), arC cI m2 60 T, arC cI m3 8 h]) (fun u => True) (fun u => some (.int (whyS (B 0) k 4))) (fun u => List.flatten [mdO m0 m1 m2 m3 th sv kp ln ca lt fi sd hs, arC cI m1 1170 (enc B), arC cI m2 60 T, arC cI m3 8 u]) 0 0 := by
  refine CE_int (cc := cX7_reason) (maxL := 3) (rt := .int) (by decide) rfl (Nat.le_of_ble_eq_true rfl) (fun _ _ => rfl) ?_
  intro p e s m below meth c A ls Q X hK hP hD hS hA hl hend
  have X : CallFix p m c cX7_reason 3 s ([.ref m0, .int (nI k), .int 4] : List Value).toArray wsX7_reason RX7 := X
  obtain ⟨hx, hb, hml, hown, hts⟩ := id X
  have hl : lv_has ls 3 [(0, .ref m0), (1, .int (nI k)), (2, .int 4)] := hl
  refine lv_iload_n hx hb dX7_reason_0 rfl (lv_at hl 2 rfl) ?_
  refine lv_tableIn (tgt := 62) hx hb dX7_reason_1 (by decide) (by decide) rfl (by decide) ?_
  refine lv_aload_n hx hb dX7_reason_62 rfl (lv_at hl 0 rfl) ?_
  refine lv_iload_n hx hb dX7_reason_63 rfl (lv_at hl 1 rfl) ?_
  refine lv_bipush (v := 100) hx hb dX7_reason_64 (by decide) ?_
  refine kcallVE (As := [.int (nI k), .int 100]) (rest := []) (Wn := fun u => [mdO m0 m1 m2 m3 th sv kp ln ca lt fi sd hs, arC cI m1 1170 (enc B), arC cI m2 60 T, arC cI m3 8 u]) X (c_X7_noTie l D cI cZ cS cJ m0 m1 m2 m3 th sv kp ln ca lt fi sd hs B T h k 100 (by omega) (by decide) hG h6) (cwV 2 hts gX7_reason_X7_noTie rfl rfl rfl (by decide +kernel) ⟨Nat.le_of_ble_eq_true rfl, Nat.le_of_ble_eq_true rfl⟩) hK hP hD hS hA [0, 1, 2, 3] rfl (by decide +kernel) (fun _ => rfl) (fun _ => rfl) (fun _ => rfl) 0 7 rfl rfl rfl hl.1 rfl (Nat.le_of_ble_eq_true rfl) dX7_reason_66 ⟨Nat.le_of_ble_eq_true rfl, Nat.le_of_ble_eq_true rfl⟩ (fun h9_1 H locs hu hP hD hS => ?_)
  have hP : va_P D vwCl (List.flatten [mdO m0 m1 m2 m3 th sv kp ln ca lt fi sd hs, arC cI m1 1170 (enc B), arC cI m2 60 T, arC cI m3 8 h9_1]) _ := hP
  have hD : va_D A (List.flatten [mdO m0 m1 m2 m3 th sv kp ln ca lt fi sd hs, arC cI m1 1170 (enc B), arC cI m2 60 T, arC cI m3 8 h9_1]) := hD
  refine hend (h9_1) _ _ _ _ _ trivial ?_ hP hD hS dX7_reason_69
  exact rfl

set_option maxHeartbeats 4000000 in
set_option maxRecDepth 100000 in
theorem c_X7_reason5 (l : Launch) (D : va_G) (cI cZ cS cJ : ClassId) (m0 : Nat) (m1 : Nat) (m2 : Nat) (m3 : Nat) (th : Int32) (sv : Int32) (kp : Int32) (ln : Int32) (ca : Int32) (lt : Int32) (fi : Int32) (sd : Int32) (hs : Int64) (B : Nat → Nat → Nat → Int32) (T : Nat → Int32) (h : Nat → Int32) (k : Nat) (hk8 : k < 8) (hG : GB (B 0)) (h6 : B 0 6 = ht (B 0)) (h7 : k < 7) : CE (U := (Nat → Int32)) l yX7_reason wsX7_reason ({ frames := 6, cells := 0, slots := 0, locals := 133 }) D (tyL cI cZ cS cJ) [.ref m0, .int (nI k), .int 5] (List.flatten [mdO m0 m1 m2 m3 th sv kp ln ca lt fi sd hs, arC cI m1 1170 (enc B), arC cI m2 60 T, arC cI m3 8 h]) (fun u => True) (fun u => some (.int (whyS (B 0) k 5))) (fun u => List.flatten [mdO m0 m1 m2 m3 th sv kp ln ca lt fi sd hs, arC cI m1 1170 (enc B), arC cI m2 60 T, arC cI m3 8 u]) 0 0 := by
  refine CE_int (cc := cX7_reason) (maxL := 3) (rt := .int) (by decide) rfl (Nat.le_of_ble_eq_true rfl) (fun _ _ => rfl) ?_
  intro p e s m below meth c A ls Q X hK hP hD hS hA hl hend
  have X : CallFix p m c cX7_reason 3 s ([.ref m0, .int (nI k), .int 5] : List Value).toArray wsX7_reason RX7 := X
  obtain ⟨hx, hb, hml, hown, hts⟩ := id X
  have hl : lv_has ls 3 [(0, .ref m0), (1, .int (nI k)), (2, .int 5)] := hl
  refine lv_iload_n hx hb dX7_reason_0 rfl (lv_at hl 2 rfl) ?_
  refine lv_tableOut (tgt := 70) hx hb dX7_reason_1 (by decide) (by decide) ?_
  refine lv_aload_n hx hb dX7_reason_70 rfl (lv_at hl 0 rfl) ?_
  refine lv_iload_n hx hb dX7_reason_71 rfl (lv_at hl 1 rfl) ?_
  refine kcallV (As := [.int (nI k)]) (rest := []) (Wn := [mdO m0 m1 m2 m3 th sv kp ln ca lt fi sd hs, arC cI m1 1170 (enc B), arC cI m2 60 T, arC cI m3 8 h]) X (c_X7_noCut l D cI cZ cS cJ m0 m1 m2 m3 th sv kp ln ca lt fi sd hs B T h k (by omega) (GB_T hG)) (cwV 1 hts gX7_reason_X7_noCut rfl rfl rfl (by decide +kernel) ⟨Nat.le_of_ble_eq_true rfl, Nat.le_of_ble_eq_true rfl⟩) hK hP hD hS hA [0, 1, 2, 3] rfl (by decide +kernel) rfl rfl rfl 0 7 rfl rfl rfl hl.1 rfl (Nat.le_of_ble_eq_true rfl) dX7_reason_72 ⟨Nat.le_of_ble_eq_true rfl, Nat.le_of_ble_eq_true rfl⟩ (fun H locs hP hD hS => ?_)
  refine hend (h) _ _ _ _ _ trivial ?_ hP hD hS dX7_reason_75
  exact rfl

set_option maxHeartbeats 4000000 in
set_option maxRecDepth 100000 in
theorem c_X7_reason (l : Launch) (D : va_G) (cI cZ cS cJ : ClassId) (m0 : Nat) (m1 : Nat) (m2 : Nat) (m3 : Nat) (th : Int32) (sv : Int32) (kp : Int32) (ln : Int32) (ca : Int32) (lt : Int32) (fi : Int32) (sd : Int32) (hs : Int64) (B : Nat → Nat → Nat → Int32) (T : Nat → Int32) (h : Nat → Int32) (k : Nat) (w : Nat) (hk8 : k < 8) (hG : GB (B 0)) (h6 : B 0 6 = ht (B 0)) (hw : w < 6) (h7 : 4 ≤ w → k < 7) : CE (U := (Nat → Int32)) l yX7_reason wsX7_reason ({ frames := 6, cells := 0, slots := 0, locals := 133 }) D (tyL cI cZ cS cJ) [.ref m0, .int (nI k), .int (nI w)] (List.flatten [mdO m0 m1 m2 m3 th sv kp ln ca lt fi sd hs, arC cI m1 1170 (enc B), arC cI m2 60 T, arC cI m3 8 h]) (fun u => True) (fun u => some (.int (whyS (B 0) k w))) (fun u => List.flatten [mdO m0 m1 m2 m3 th sv kp ln ca lt fi sd hs, arC cI m1 1170 (enc B), arC cI m2 60 T, arC cI m3 8 u]) 0 0 := by
  rcases (show w = 0 ∨ w = 1 ∨ w = 2 ∨ w = 3 ∨ w = 4 ∨ w = 5 by omega) with rfl | rfl | rfl | rfl | rfl | rfl
  · exact c_X7_reason0 l D cI cZ cS cJ m0 m1 m2 m3 th sv kp ln ca lt fi sd hs B T h k hk8 hG h6
  · exact c_X7_reason1 l D cI cZ cS cJ m0 m1 m2 m3 th sv kp ln ca lt fi sd hs B T h k hk8 hG h6
  · exact c_X7_reason2 l D cI cZ cS cJ m0 m1 m2 m3 th sv kp ln ca lt fi sd hs B T h k hk8 hG h6
  · exact c_X7_reason3 l D cI cZ cS cJ m0 m1 m2 m3 th sv kp ln ca lt fi sd hs B T h k hk8 hG h6
  · exact c_X7_reason4 l D cI cZ cS cJ m0 m1 m2 m3 th sv kp ln ca lt fi sd hs B T h k hk8 hG h6 (h7 (by omega))
  · exact c_X7_reason5 l D cI cZ cS cJ m0 m1 m2 m3 th sv kp ln ca lt fi sd hs B T h k hk8 hG h6 (h7 (by omega))

set_option maxHeartbeats 4000000 in
set_option maxRecDepth 100000 in
theorem c_X7_balloon (l : Launch) (D : va_G) (cI cZ cS cJ : ClassId) (m0 : Nat) (m1 : Nat) (m2 : Nat) (m3 : Nat) (th : Int32) (sv : Int32) (kp : Int32) (ln : Int32) (ca : Int32) (lt : Int32) (fi : Int32) (sd : Int32) (hs : Int64) (B : Nat → Nat → Nat → Int32) (T : Nat → Int32) (h : Nat → Int32) (x : Int32) (y : Int32) (hG : GB (B 0)) (h6 : B 0 6 = ht (B 0)) : CE (U := (Int32) × (Nat → Int32) × (Int32)) l yX7_balloon wsX7_balloon ({ frames := 7, cells := 0, slots := 0, locals := 154 }) D (tyL cI cZ cS cJ) [.ref m0, .int x, .int y] (List.flatten [mdO m0 m1 m2 m3 th sv kp ln ca lt fi sd hs, arC cI m1 1170 (enc B), arC cI m2 60 T, arC cI m3 8 h]) (fun u => (Lk (k2 (isB x) (inR y 0 11)) u.1 (balS (B 0) x.toNatClampNeg y.toNatClampNeg) u.2.2)) (fun u => some (.int u.2.2)) (fun u => List.flatten [mdO m0 m1 m2 m3 u.1 sv kp ln ca lt fi sd hs, arC cI m1 1170 (enc B), arC cI m2 60 T, arC cI m3 8 u.2.1]) 0 0 := by
  refine CE_int (cc := cX7_balloon) (maxL := 3) (rt := .int) (by decide) rfl (Nat.le_of_ble_eq_true rfl) (fun _ _ => rfl) ?_
  intro p e s m below meth c A ls Q X hK hP hD hS hA hl hend
  have X : CallFix p m c cX7_balloon 3 s ([.ref m0, .int x, .int y] : List Value).toArray wsX7_balloon RX7 := X
  obtain ⟨hx, hb, hml, hown, hts⟩ := id X
  have hl : lv_has ls 3 [(0, .ref m0), (1, .int x), (2, .int y)] := hl
  refine lv_aload_n hx hb dX7_balloon_0 rfl (lv_at hl 0 rfl) ?_
  refine lv_iload_n hx hb dX7_balloon_1 rfl (lv_at hl 1 rfl) ?_
  refine kcallS (As := [.int x]) (rest := [.ref m0]) (Wn := [mdO m0 m1 m2 m3 th sv kp ln ca lt fi sd hs, arC cI m1 1170 (enc B), arC cI m2 60 T, arC cI m3 8 h]) X (c_X7_isBalloon l D cI cZ cS cJ x) (va_cwS 1 hts gX7_balloon_X7_isBalloon rfl rfl rfl (by decide +kernel) ⟨Nat.le_of_ble_eq_true rfl, Nat.le_of_ble_eq_true rfl⟩) hK hP hD hS hA [] rfl (by decide +kernel) rfl rfl rfl rfl hl.1 rfl (Nat.le_of_ble_eq_true rfl) dX7_balloon_2 ⟨Nat.le_of_ble_eq_true rfl, Nat.le_of_ble_eq_true rfl⟩ (fun H locs hP hD hS => ?_)
  refine lv_if_ne (tgt := 12) hx hb dX7_balloon_5 (by decide) (fun c5 => ?_) (fun c5 => ?_)
  · skip
    obtain ⟨b, hb8, rfl⟩ := bal_of (b1_t c5)
    have hP : va_P D vwCl (List.flatten [mdO m0 m1 m2 m3 th sv kp ln ca lt fi sd hs, arC cI m1 1170 (enc B), arC cI m2 60 T, arC cI m3 8 h]) _ := hP
    have hD : va_D A (List.flatten [mdO m0 m1 m2 m3 th sv kp ln ca lt fi sd hs, arC cI m1 1170 (enc B), arC cI m2 60 T, arC cI m3 8 h]) := hD
    have hl : lv_has ls 3 [(0, .ref m0), (1, .int (nI b)), (2, .int y)] := hl
    have ec : (nI b).toNatClampNeg = b := nI_clamp (by omega)
    refine lv_iload_n hx hb dX7_balloon_12 rfl (lv_at hl 2 rfl) ?_
    refine lv_iconst (v := 0) hx hb dX7_balloon_13 (by decide) ?_
    refine lv_bipush (v := 11) hx hb dX7_balloon_14 (by decide) ?_
    refine kcallS (As := [.int y, .int 0, .int 11]) (rest := [.ref m0]) (Wn := [mdO m0 m1 m2 m3 th sv kp ln ca lt fi sd hs, arC cI m1 1170 (enc B), arC cI m2 60 T, arC cI m3 8 h]) X (c_X7_in l D cI cZ cS cJ y 0 11) (va_cwS 3 hts gX7_balloon_X7_in rfl rfl rfl (by decide +kernel) ⟨Nat.le_of_ble_eq_true rfl, Nat.le_of_ble_eq_true rfl⟩) hK hP hD hS hA [] rfl (by decide +kernel) rfl rfl rfl rfl hl.1 rfl (Nat.le_of_ble_eq_true rfl) dX7_balloon_16 ⟨Nat.le_of_ble_eq_true rfl, Nat.le_of_ble_eq_true rfl⟩ (fun H locs hP hD hS => ?_)
    refine lv_if_ne (tgt := 26) hx hb dX7_balloon_19 (by decide) (fun c19 => ?_) (fun c19 => ?_)
    · skip
      obtain ⟨w, hw, rfl⟩ := num_of (n := 11) (by decide) (b1_t c19)
      have hP : va_P D vwCl (List.flatten [mdO m0 m1 m2 m3 th sv kp ln ca lt fi sd hs, arC cI m1 1170 (enc B), arC cI m2 60 T, arC cI m3 8 h]) _ := hP
      have hD : va_D A (List.flatten [mdO m0 m1 m2 m3 th sv kp ln ca lt fi sd hs, arC cI m1 1170 (enc B), arC cI m2 60 T, arC cI m3 8 h]) := hD
      have hl : lv_has ls 3 [(0, .ref m0), (1, .int (nI b)), (2, .int (nI w))] := hl
      have ew : (nI w).toNatClampNeg = w := nI_clamp (by omega)
      refine lv_iconst (v := 0) hx hb dX7_balloon_26 (by decide) ?_
      refine kcallV (As := [.int 0]) (rest := []) (Wn := [mdO m0 m1 m2 m3 0 sv kp ln ca lt fi sd hs, arC cI m1 1170 (enc B), arC cI m2 60 T, arC cI m3 8 h]) X (c_X7_holds l D cI cZ cS cJ m0 m1 m2 m3 th sv kp ln ca lt fi sd hs B T h 0) (cwV 1 hts gX7_balloon_X7_holds rfl rfl rfl (by decide +kernel) ⟨Nat.le_of_ble_eq_true rfl, Nat.le_of_ble_eq_true rfl⟩) hK hP hD hS hA [0, 1, 2, 3] rfl (by decide +kernel) rfl rfl rfl 0 7 rfl rfl rfl hl.1 rfl (Nat.le_of_ble_eq_true rfl) dX7_balloon_27 ⟨Nat.le_of_ble_eq_true rfl, Nat.le_of_ble_eq_true rfl⟩ (fun H locs hP hD hS => ?_)
      refine lv_eqi (y := 1) (by decide) ?_
      refine lv_if_eq (tgt := 42) hx hb dX7_balloon_30 (by decide) (fun h => absurd h (by decide)) (fun _ => ?_)
      refine lv_aload_n hx hb dX7_balloon_33 rfl (lv_at hl 0 rfl) ?_
      refine lv_iload_n hx hb dX7_balloon_34 rfl (lv_at hl 1 rfl) ?_
      refine lv_iload_n hx hb dX7_balloon_35 rfl (lv_at hl 2 rfl) ?_
      refine kcallVE (As := [.int (nI b), .int (nI w)]) (rest := []) (Wn := fun u => [mdO m0 m1 m2 m3 0 sv kp ln ca lt fi sd hs, arC cI m1 1170 (enc B), arC cI m2 60 T, arC cI m3 8 u]) X (c_X7_ofBalloon l D cI cZ cS cJ m0 m1 m2 m3 0 sv kp ln ca lt fi sd hs B T h b w (by omega) hG h6 (by omega)) (cwV 2 hts gX7_balloon_X7_ofBalloon rfl rfl rfl (by decide +kernel) ⟨Nat.le_of_ble_eq_true rfl, Nat.le_of_ble_eq_true rfl⟩) hK hP hD hS hA [0, 1, 2, 3] rfl (by decide +kernel) (fun _ => rfl) (fun _ => rfl) (fun _ => rfl) 0 7 rfl rfl rfl hl.1 rfl (Nat.le_of_ble_eq_true rfl) dX7_balloon_36 ⟨Nat.le_of_ble_eq_true rfl, Nat.le_of_ble_eq_true rfl⟩ (fun h9_1 H locs hu hP hD hS => ?_)
      have hP : va_P D vwCl (List.flatten [mdO m0 m1 m2 m3 0 sv kp ln ca lt fi sd hs, arC cI m1 1170 (enc B), arC cI m2 60 T, arC cI m3 8 h9_1]) _ := hP
      have hD : va_D A (List.flatten [mdO m0 m1 m2 m3 0 sv kp ln ca lt fi sd hs, arC cI m1 1170 (enc B), arC cI m2 60 T, arC cI m3 8 h9_1]) := hD
      refine lv_goto (tgt := 43) hx hb dX7_balloon_39 (by decide) ?_
      refine hend (0, h9_1, balS (B 0) b w) _ _ _ _ _ (by first | exact Lk_bad (k2_1 (b1_z c5)) nz1 | (rw [ec]; first | exact Lk_bad (k2_2 (b1_t c5) (b1_z c19)) nz2 | (rw [ew]; exact Lk_ok (k2_0 (b1_t c5) (b1_t c19)) rfl))) ?_ hP hD hS dX7_balloon_43
      exact rfl
    · skip
      refine lv_iconst (v := 2) hx hb dX7_balloon_22 (by decide) ?_
      refine lv_goto (tgt := 27) hx hb dX7_balloon_23 (by decide) ?_
      refine kcallV (As := [.int 2]) (rest := []) (Wn := [mdO m0 m1 m2 m3 2 sv kp ln ca lt fi sd hs, arC cI m1 1170 (enc B), arC cI m2 60 T, arC cI m3 8 h]) X (c_X7_holds l D cI cZ cS cJ m0 m1 m2 m3 th sv kp ln ca lt fi sd hs B T h 2) (cwV 1 hts gX7_balloon_X7_holds rfl rfl rfl (by decide +kernel) ⟨Nat.le_of_ble_eq_true rfl, Nat.le_of_ble_eq_true rfl⟩) hK hP hD hS hA [0, 1, 2, 3] rfl (by decide +kernel) rfl rfl rfl 0 7 rfl rfl rfl hl.1 rfl (Nat.le_of_ble_eq_true rfl) dX7_balloon_27 ⟨Nat.le_of_ble_eq_true rfl, Nat.le_of_ble_eq_true rfl⟩ (fun H locs hP hD hS => ?_)
      refine lv_eqi (y := 0) (by decide) ?_
      refine lv_if_eq (tgt := 42) hx hb dX7_balloon_30 (by decide) (fun _ => ?_) (fun h => absurd (by decide) h)
      refine lv_iconst (v := 0) hx hb dX7_balloon_42 (by decide) ?_
      refine hend (2, h, 0) _ _ _ _ _ (by first | exact Lk_bad (k2_1 (b1_z c5)) nz1 | (rw [ec]; first | exact Lk_bad (k2_2 (b1_t c5) (b1_z c19)) nz2 | (rw [ew]; exact Lk_ok (k2_0 (b1_t c5) (b1_t c19)) rfl))) ?_ hP hD hS dX7_balloon_43
      exact rfl
  · skip
    refine lv_iconst (v := 1) hx hb dX7_balloon_8 (by decide) ?_
    refine lv_goto (tgt := 27) hx hb dX7_balloon_9 (by decide) ?_
    refine kcallV (As := [.int 1]) (rest := []) (Wn := [mdO m0 m1 m2 m3 1 sv kp ln ca lt fi sd hs, arC cI m1 1170 (enc B), arC cI m2 60 T, arC cI m3 8 h]) X (c_X7_holds l D cI cZ cS cJ m0 m1 m2 m3 th sv kp ln ca lt fi sd hs B T h 1) (cwV 1 hts gX7_balloon_X7_holds rfl rfl rfl (by decide +kernel) ⟨Nat.le_of_ble_eq_true rfl, Nat.le_of_ble_eq_true rfl⟩) hK hP hD hS hA [0, 1, 2, 3] rfl (by decide +kernel) rfl rfl rfl 0 7 rfl rfl rfl hl.1 rfl (Nat.le_of_ble_eq_true rfl) dX7_balloon_27 ⟨Nat.le_of_ble_eq_true rfl, Nat.le_of_ble_eq_true rfl⟩ (fun H locs hP hD hS => ?_)
    refine lv_eqi (y := 0) (by decide) ?_
    refine lv_if_eq (tgt := 42) hx hb dX7_balloon_30 (by decide) (fun _ => ?_) (fun h => absurd (by decide) h)
    refine lv_iconst (v := 0) hx hb dX7_balloon_42 (by decide) ?_
    refine hend (1, h, 0) _ _ _ _ _ (by first | exact Lk_bad (k2_1 (b1_z c5)) nz1 | (rw [ec]; first | exact Lk_bad (k2_2 (b1_t c5) (b1_z c19)) nz2 | (rw [ew]; exact Lk_ok (k2_0 (b1_t c5) (b1_t c19)) rfl))) ?_ hP hD hS dX7_balloon_43
    exact rfl

set_option maxHeartbeats 4000000 in
set_option maxRecDepth 100000 in
theorem c_X7_ribbon (l : Launch) (D : va_G) (cI cZ cS cJ : ClassId) (m0 : Nat) (m1 : Nat) (m2 : Nat) (m3 : Nat) (th : Int32) (sv : Int32) (kp : Int32) (ln : Int32) (ca : Int32) (lt : Int32) (fi : Int32) (sd : Int32) (hs : Int64) (B : Nat → Nat → Nat → Int32) (T : Nat → Int32) (h : Nat → Int32) (x : Int32) (y : Int32) (hG : GB (B 0)) (h6 : B 0 6 = ht (B 0)) : CE (U := (Int32) × (Nat → Int32) × (Int32)) l yX7_ribbon wsX7_ribbon ({ frames := 5, cells := 0, slots := 0, locals := 117 }) D (tyL cI cZ cS cJ) [.ref m0, .int x, .int y] (List.flatten [mdO m0 m1 m2 m3 th sv kp ln ca lt fi sd hs, arC cI m1 1170 (enc B), arC cI m2 60 T, arC cI m3 8 h]) (fun u => (Lk (k2 (isR x) (inR y 0 4)) u.1 (ribS (B 0) x.toNatClampNeg y.toNatClampNeg) u.2.2)) (fun u => some (.int u.2.2)) (fun u => List.flatten [mdO m0 m1 m2 m3 u.1 sv kp ln ca lt fi sd hs, arC cI m1 1170 (enc B), arC cI m2 60 T, arC cI m3 8 u.2.1]) 0 0 := by
  refine CE_int (cc := cX7_ribbon) (maxL := 3) (rt := .int) (by decide) rfl (Nat.le_of_ble_eq_true rfl) (fun _ _ => rfl) ?_
  intro p e s m below meth c A ls Q X hK hP hD hS hA hl hend
  have X : CallFix p m c cX7_ribbon 3 s ([.ref m0, .int x, .int y] : List Value).toArray wsX7_ribbon RX7 := X
  obtain ⟨hx, hb, hml, hown, hts⟩ := id X
  have hl : lv_has ls 3 [(0, .ref m0), (1, .int x), (2, .int y)] := hl
  refine lv_aload_n hx hb dX7_ribbon_0 rfl (lv_at hl 0 rfl) ?_
  refine lv_iload_n hx hb dX7_ribbon_1 rfl (lv_at hl 1 rfl) ?_
  refine kcallS (As := [.int x]) (rest := [.ref m0]) (Wn := [mdO m0 m1 m2 m3 th sv kp ln ca lt fi sd hs, arC cI m1 1170 (enc B), arC cI m2 60 T, arC cI m3 8 h]) X (c_X7_isRibbon l D cI cZ cS cJ x) (va_cwS 1 hts gX7_ribbon_X7_isRibbon rfl rfl rfl (by decide +kernel) ⟨Nat.le_of_ble_eq_true rfl, Nat.le_of_ble_eq_true rfl⟩) hK hP hD hS hA [] rfl (by decide +kernel) rfl rfl rfl rfl hl.1 rfl (Nat.le_of_ble_eq_true rfl) dX7_ribbon_2 ⟨Nat.le_of_ble_eq_true rfl, Nat.le_of_ble_eq_true rfl⟩ (fun H locs hP hD hS => ?_)
  refine lv_if_ne (tgt := 12) hx hb dX7_ribbon_5 (by decide) (fun c5 => ?_) (fun c5 => ?_)
  · skip
    obtain ⟨r, hr7, rfl⟩ := rib_of (b1_t c5)
    have hP : va_P D vwCl (List.flatten [mdO m0 m1 m2 m3 th sv kp ln ca lt fi sd hs, arC cI m1 1170 (enc B), arC cI m2 60 T, arC cI m3 8 h]) _ := hP
    have hD : va_D A (List.flatten [mdO m0 m1 m2 m3 th sv kp ln ca lt fi sd hs, arC cI m1 1170 (enc B), arC cI m2 60 T, arC cI m3 8 h]) := hD
    have hl : lv_has ls 3 [(0, .ref m0), (1, .int (nI r)), (2, .int y)] := hl
    have ec : (nI r).toNatClampNeg = r := nI_clamp (by omega)
    refine lv_iload_n hx hb dX7_ribbon_12 rfl (lv_at hl 2 rfl) ?_
    refine lv_iconst (v := 0) hx hb dX7_ribbon_13 (by decide) ?_
    refine lv_iconst (v := 4) hx hb dX7_ribbon_14 (by decide) ?_
    refine kcallS (As := [.int y, .int 0, .int 4]) (rest := [.ref m0]) (Wn := [mdO m0 m1 m2 m3 th sv kp ln ca lt fi sd hs, arC cI m1 1170 (enc B), arC cI m2 60 T, arC cI m3 8 h]) X (c_X7_in l D cI cZ cS cJ y 0 4) (va_cwS 3 hts gX7_ribbon_X7_in rfl rfl rfl (by decide +kernel) ⟨Nat.le_of_ble_eq_true rfl, Nat.le_of_ble_eq_true rfl⟩) hK hP hD hS hA [] rfl (by decide +kernel) rfl rfl rfl rfl hl.1 rfl (Nat.le_of_ble_eq_true rfl) dX7_ribbon_15 ⟨Nat.le_of_ble_eq_true rfl, Nat.le_of_ble_eq_true rfl⟩ (fun H locs hP hD hS => ?_)
    refine lv_if_ne (tgt := 25) hx hb dX7_ribbon_18 (by decide) (fun c18 => ?_) (fun c18 => ?_)
    · skip
      obtain ⟨w, hw, rfl⟩ := num_of (n := 4) (by decide) (b1_t c18)
      have hP : va_P D vwCl (List.flatten [mdO m0 m1 m2 m3 th sv kp ln ca lt fi sd hs, arC cI m1 1170 (enc B), arC cI m2 60 T, arC cI m3 8 h]) _ := hP
      have hD : va_D A (List.flatten [mdO m0 m1 m2 m3 th sv kp ln ca lt fi sd hs, arC cI m1 1170 (enc B), arC cI m2 60 T, arC cI m3 8 h]) := hD
      have hl : lv_has ls 3 [(0, .ref m0), (1, .int (nI r)), (2, .int (nI w))] := hl
      have ew : (nI w).toNatClampNeg = w := nI_clamp (by omega)
      refine lv_iconst (v := 0) hx hb dX7_ribbon_25 (by decide) ?_
      refine kcallV (As := [.int 0]) (rest := []) (Wn := [mdO m0 m1 m2 m3 0 sv kp ln ca lt fi sd hs, arC cI m1 1170 (enc B), arC cI m2 60 T, arC cI m3 8 h]) X (c_X7_holds l D cI cZ cS cJ m0 m1 m2 m3 th sv kp ln ca lt fi sd hs B T h 0) (cwV 1 hts gX7_ribbon_X7_holds rfl rfl rfl (by decide +kernel) ⟨Nat.le_of_ble_eq_true rfl, Nat.le_of_ble_eq_true rfl⟩) hK hP hD hS hA [0, 1, 2, 3] rfl (by decide +kernel) rfl rfl rfl 0 7 rfl rfl rfl hl.1 rfl (Nat.le_of_ble_eq_true rfl) dX7_ribbon_26 ⟨Nat.le_of_ble_eq_true rfl, Nat.le_of_ble_eq_true rfl⟩ (fun H locs hP hD hS => ?_)
      refine lv_eqi (y := 1) (by decide) ?_
      refine lv_if_eq (tgt := 41) hx hb dX7_ribbon_29 (by decide) (fun h => absurd h (by decide)) (fun _ => ?_)
      refine lv_aload_n hx hb dX7_ribbon_32 rfl (lv_at hl 0 rfl) ?_
      refine lv_iload_n hx hb dX7_ribbon_33 rfl (lv_at hl 1 rfl) ?_
      refine lv_iload_n hx hb dX7_ribbon_34 rfl (lv_at hl 2 rfl) ?_
      refine kcallVE (As := [.int (nI r), .int (nI w)]) (rest := []) (Wn := fun u => [mdO m0 m1 m2 m3 0 sv kp ln ca lt fi sd hs, arC cI m1 1170 (enc B), arC cI m2 60 T, arC cI m3 8 u]) X (c_X7_ofRibbon l D cI cZ cS cJ m0 m1 m2 m3 0 sv kp ln ca lt fi sd hs B T h r w (by omega) hG h6 (by omega)) (cwV 2 hts gX7_ribbon_X7_ofRibbon rfl rfl rfl (by decide +kernel) ⟨Nat.le_of_ble_eq_true rfl, Nat.le_of_ble_eq_true rfl⟩) hK hP hD hS hA [0, 1, 2, 3] rfl (by decide +kernel) (fun _ => rfl) (fun _ => rfl) (fun _ => rfl) 0 7 rfl rfl rfl hl.1 rfl (Nat.le_of_ble_eq_true rfl) dX7_ribbon_35 ⟨Nat.le_of_ble_eq_true rfl, Nat.le_of_ble_eq_true rfl⟩ (fun h9_1 H locs hu hP hD hS => ?_)
      have hP : va_P D vwCl (List.flatten [mdO m0 m1 m2 m3 0 sv kp ln ca lt fi sd hs, arC cI m1 1170 (enc B), arC cI m2 60 T, arC cI m3 8 h9_1]) _ := hP
      have hD : va_D A (List.flatten [mdO m0 m1 m2 m3 0 sv kp ln ca lt fi sd hs, arC cI m1 1170 (enc B), arC cI m2 60 T, arC cI m3 8 h9_1]) := hD
      refine lv_goto (tgt := 42) hx hb dX7_ribbon_38 (by decide) ?_
      refine hend (0, h9_1, ribS (B 0) r w) _ _ _ _ _ (by first | exact Lk_bad (k2_1 (b1_z c5)) nz1 | (rw [ec]; first | exact Lk_bad (k2_2 (b1_t c5) (b1_z c18)) nz2 | (rw [ew]; exact Lk_ok (k2_0 (b1_t c5) (b1_t c18)) rfl))) ?_ hP hD hS dX7_ribbon_42
      exact rfl
    · skip
      refine lv_iconst (v := 2) hx hb dX7_ribbon_21 (by decide) ?_
      refine lv_goto (tgt := 26) hx hb dX7_ribbon_22 (by decide) ?_
      refine kcallV (As := [.int 2]) (rest := []) (Wn := [mdO m0 m1 m2 m3 2 sv kp ln ca lt fi sd hs, arC cI m1 1170 (enc B), arC cI m2 60 T, arC cI m3 8 h]) X (c_X7_holds l D cI cZ cS cJ m0 m1 m2 m3 th sv kp ln ca lt fi sd hs B T h 2) (cwV 1 hts gX7_ribbon_X7_holds rfl rfl rfl (by decide +kernel) ⟨Nat.le_of_ble_eq_true rfl, Nat.le_of_ble_eq_true rfl⟩) hK hP hD hS hA [0, 1, 2, 3] rfl (by decide +kernel) rfl rfl rfl 0 7 rfl rfl rfl hl.1 rfl (Nat.le_of_ble_eq_true rfl) dX7_ribbon_26 ⟨Nat.le_of_ble_eq_true rfl, Nat.le_of_ble_eq_true rfl⟩ (fun H locs hP hD hS => ?_)
      refine lv_eqi (y := 0) (by decide) ?_
      refine lv_if_eq (tgt := 41) hx hb dX7_ribbon_29 (by decide) (fun _ => ?_) (fun h => absurd (by decide) h)
      refine lv_iconst (v := 0) hx hb dX7_ribbon_41 (by decide) ?_
      refine hend (2, h, 0) _ _ _ _ _ (by first | exact Lk_bad (k2_1 (b1_z c5)) nz1 | (rw [ec]; first | exact Lk_bad (k2_2 (b1_t c5) (b1_z c18)) nz2 | (rw [ew]; exact Lk_ok (k2_0 (b1_t c5) (b1_t c18)) rfl))) ?_ hP hD hS dX7_ribbon_42
      exact rfl
  · skip
    refine lv_iconst (v := 1) hx hb dX7_ribbon_8 (by decide) ?_
    refine lv_goto (tgt := 26) hx hb dX7_ribbon_9 (by decide) ?_
    refine kcallV (As := [.int 1]) (rest := []) (Wn := [mdO m0 m1 m2 m3 1 sv kp ln ca lt fi sd hs, arC cI m1 1170 (enc B), arC cI m2 60 T, arC cI m3 8 h]) X (c_X7_holds l D cI cZ cS cJ m0 m1 m2 m3 th sv kp ln ca lt fi sd hs B T h 1) (cwV 1 hts gX7_ribbon_X7_holds rfl rfl rfl (by decide +kernel) ⟨Nat.le_of_ble_eq_true rfl, Nat.le_of_ble_eq_true rfl⟩) hK hP hD hS hA [0, 1, 2, 3] rfl (by decide +kernel) rfl rfl rfl 0 7 rfl rfl rfl hl.1 rfl (Nat.le_of_ble_eq_true rfl) dX7_ribbon_26 ⟨Nat.le_of_ble_eq_true rfl, Nat.le_of_ble_eq_true rfl⟩ (fun H locs hP hD hS => ?_)
    refine lv_eqi (y := 0) (by decide) ?_
    refine lv_if_eq (tgt := 41) hx hb dX7_ribbon_29 (by decide) (fun _ => ?_) (fun h => absurd (by decide) h)
    refine lv_iconst (v := 0) hx hb dX7_ribbon_41 (by decide) ?_
    refine hend (1, h, 0) _ _ _ _ _ (by first | exact Lk_bad (k2_1 (b1_z c5)) nz1 | (rw [ec]; first | exact Lk_bad (k2_2 (b1_t c5) (b1_z c18)) nz2 | (rw [ew]; exact Lk_ok (k2_0 (b1_t c5) (b1_t c18)) rfl))) ?_ hP hD hS dX7_ribbon_42
    exact rfl

set_option maxHeartbeats 4000000 in
set_option maxRecDepth 100000 in
theorem c_X7_noted (l : Launch) (D : va_G) (cI cZ cS cJ : ClassId) (m0 : Nat) (m1 : Nat) (m2 : Nat) (m3 : Nat) (th : Int32) (sv : Int32) (kp : Int32) (ln : Int32) (ca : Int32) (lt : Int32) (fi : Int32) (sd : Int32) (hs : Int64) (B : Nat → Nat → Nat → Int32) (T : Nat → Int32) (h : Nat → Int32) (y0 : Nat) (x : Int32) (y : Int32) (hG : GB (B 0)) (h6 : B 0 6 = ht (B 0)) (hy : B 0 12 8 = nI y0) (hy20 : y0 ≤ 20) : CE (U := (Int32) × (Int32)) l yX7_noted wsX7_noted ({ frames := 1, cells := 0, slots := 0, locals := 22 }) D (tyL cI cZ cS cJ) [.ref m0, .int x, .int y] (List.flatten [mdO m0 m1 m2 m3 th sv kp ln ca lt fi sd hs, arC cI m1 1170 (enc B), arC cI m2 60 T, arC cI m3 8 h]) (fun u => (Lk (k2 (¬ x < 0) (inR y 0 2)) u.1 (ntl (B 0) y0 x.toNatClampNeg y.toNatClampNeg) u.2)) (fun u => some (.int u.2)) (fun u => List.flatten [mdO m0 m1 m2 m3 u.1 sv kp ln ca lt fi sd hs, arC cI m1 1170 (enc B), arC cI m2 60 T, arC cI m3 8 h]) 0 0 := by
  refine CE_int (cc := cX7_noted) (maxL := 3) (rt := .int) (by decide) rfl (Nat.le_of_ble_eq_true rfl) (fun _ _ => rfl) ?_
  intro p e s m below meth c A ls Q X hK hP hD hS hA hl hend
  have X : CallFix p m c cX7_noted 3 s ([.ref m0, .int x, .int y] : List Value).toArray wsX7_noted RX7 := X
  obtain ⟨hx, hb, hml, hown, hts⟩ := id X
  have hl : lv_has ls 3 [(0, .ref m0), (1, .int x), (2, .int y)] := hl
  have hinX7 : ∀ w ∈ u_ws RX7 TX7 12, w ∈ wsX7_noted := by decide +kernel
  refine lv_aload_n hx hb dX7_noted_0 rfl (lv_at hl 0 rfl) ?_
  refine lv_iload_n hx hb dX7_noted_1 rfl (lv_at hl 1 rfl) ?_
  refine lv_if_ge (tgt := 9) hx hb dX7_noted_2 (by decide) (fun c2 => ?_) (fun c2 => ?_)
  · skip
    obtain ⟨k, hk31, rfl⟩ := nI_of (Int32.not_lt.mpr c2)
    have hP : va_P D vwCl (List.flatten [mdO m0 m1 m2 m3 th sv kp ln ca lt fi sd hs, arC cI m1 1170 (enc B), arC cI m2 60 T, arC cI m3 8 h]) _ := hP
    have hD : va_D A (List.flatten [mdO m0 m1 m2 m3 th sv kp ln ca lt fi sd hs, arC cI m1 1170 (enc B), arC cI m2 60 T, arC cI m3 8 h]) := hD
    have hl : lv_has ls 3 [(0, .ref m0), (1, .int (nI k)), (2, .int y)] := hl
    have ec : (nI k).toNatClampNeg = k := nI_clamp (by omega)
    refine lv_iload_n hx hb dX7_noted_9 rfl (lv_at hl 2 rfl) ?_
    refine lv_iconst (v := 0) hx hb dX7_noted_10 (by decide) ?_
    refine lv_iconst (v := 2) hx hb dX7_noted_11 (by decide) ?_
    refine kcallS (As := [.int y, .int 0, .int 2]) (rest := [.ref m0]) (Wn := [mdO m0 m1 m2 m3 th sv kp ln ca lt fi sd hs, arC cI m1 1170 (enc B), arC cI m2 60 T, arC cI m3 8 h]) X (c_X7_in l D cI cZ cS cJ y 0 2) (va_cwS 3 hts gX7_noted_X7_in rfl rfl rfl (by decide +kernel) ⟨Nat.le_of_ble_eq_true rfl, Nat.le_of_ble_eq_true rfl⟩) hK hP hD hS hA [] rfl (by decide +kernel) rfl rfl rfl rfl hl.1 rfl (Nat.le_of_ble_eq_true rfl) dX7_noted_12 ⟨Nat.le_of_ble_eq_true rfl, Nat.le_of_ble_eq_true rfl⟩ (fun H locs hP hD hS => ?_)
    refine lv_if_ne (tgt := 22) hx hb dX7_noted_15 (by decide) (fun c15 => ?_) (fun c15 => ?_)
    · skip
      obtain ⟨w, hw, rfl⟩ := num_of (n := 2) (by decide) (b1_t c15)
      have hP : va_P D vwCl (List.flatten [mdO m0 m1 m2 m3 th sv kp ln ca lt fi sd hs, arC cI m1 1170 (enc B), arC cI m2 60 T, arC cI m3 8 h]) _ := hP
      have hD : va_D A (List.flatten [mdO m0 m1 m2 m3 th sv kp ln ca lt fi sd hs, arC cI m1 1170 (enc B), arC cI m2 60 T, arC cI m3 8 h]) := hD
      have hl : lv_has ls 3 [(0, .ref m0), (1, .int (nI k)), (2, .int (nI w))] := hl
      have ew : (nI w).toNatClampNeg = w := nI_clamp (by omega)
      refine lv_iconst (v := 0) hx hb dX7_noted_22 (by decide) ?_
      refine kcallV (As := [.int 0]) (rest := []) (Wn := [mdO m0 m1 m2 m3 0 sv kp ln ca lt fi sd hs, arC cI m1 1170 (enc B), arC cI m2 60 T, arC cI m3 8 h]) X (c_X7_holds l D cI cZ cS cJ m0 m1 m2 m3 th sv kp ln ca lt fi sd hs B T h 0) (cwV 1 hts gX7_noted_X7_holds rfl rfl rfl (by decide +kernel) ⟨Nat.le_of_ble_eq_true rfl, Nat.le_of_ble_eq_true rfl⟩) hK hP hD hS hA [0, 1, 2, 3] rfl (by decide +kernel) rfl rfl rfl 0 7 rfl rfl rfl hl.1 rfl (Nat.le_of_ble_eq_true rfl) dX7_noted_23 ⟨Nat.le_of_ble_eq_true rfl, Nat.le_of_ble_eq_true rfl⟩ (fun H locs hP hD hS => ?_)
      refine lv_eqi (y := 1) (by decide) ?_
      refine lv_if_ne (tgt := 31) hx hb dX7_noted_26 (by decide) (fun _ => ?_) (fun h => absurd h (by decide))
      refine lv_iload_n hx hb dX7_noted_31 rfl (lv_at hl 1 rfl) ?_
      refine lv_aload_n hx hb dX7_noted_32 rfl (lv_at hl 0 rfl) ?_
      refine va_get (D := D) (ci := 7) (v := .ref m1) (C := RX7) (T := TX7) (N := 12) hx hb hts hinX7 hown hK hP 0 rfl rfl 1 (by decide) (hts (.fieldLink RX7 7 "RibbonBalloonsModel" "s" "[I") (by decide +kernel)) (fun _ h9 => h9) rfl dX7_noted_33 ?_
      refine lv_bipush (v := 8) hx hb dX7_noted_36 (by decide) ?_
      refine r_iald hx hb hK hP 1 0 8 (f := enc B) rfl rfl (by omega) (by omega) dX7_noted_38 ?_
      refine lv_eqi (y := nI y0) ((enc_at0 B (by decide)).trans hy) ?_
      refine n_ge (i := k) (j := y0) (tgt := 58) hx hb (by omega) (by omega) dX7_noted_39 (by decide) (fun c39 => ?_) (fun c39 => ?_)
      · skip
        refine lv_sipush (v := (-1000)) hx hb dX7_noted_58 (by decide) ?_
        refine hend (0, (-1000)) _ _ _ _ _ (by first | exact Lk_bad (k2_1 (fun q => q (Int32.not_le.mp c2))) nz1 | (rw [ec]; first | exact Lk_bad (k2_2 (nI_pos (by omega)) (b1_z c15)) nz2 | (rw [ew]; first | exact Lk_ok (k2_0 (nI_pos (by omega)) (b1_t c15)) (by unfold ntl; rw [if_pos (by omega)]; exact enc_n B (by omega) (by omega)) | exact Lk_ok (k2_0 (nI_pos (by omega)) (b1_t c15)) (by unfold ntl; rw [if_neg (by omega)])))) ?_ hP hD hS dX7_noted_61
        exact rfl
      · skip
        refine lv_aload_n hx hb dX7_noted_42 rfl (lv_at hl 0 rfl) ?_
        refine va_get (D := D) (ci := 7) (v := .ref m1) (C := RX7) (T := TX7) (N := 12) hx hb hts hinX7 hown hK hP 0 rfl rfl 1 (by decide) (hts (.fieldLink RX7 7 "RibbonBalloonsModel" "s" "[I") (by decide +kernel)) (fun _ h9 => h9) rfl dX7_noted_43 ?_
        refine lv_bipush (v := 70) hx hb dX7_noted_46 (by decide) ?_
        refine lv_iconst (v := 3) hx hb dX7_noted_48 (by decide) ?_
        refine lv_iload_n hx hb dX7_noted_49 rfl (lv_at hl 1 rfl) ?_
        refine lv_imul hx hb dX7_noted_50 ?_
        refine lv_eqi (y := nI (3 * k)) (pk_mul _ _) ?_
        refine lv_iadd hx hb dX7_noted_51 ?_
        refine lv_eqi (y := nI (70 + (3 * k))) (nI_add _ _) ?_
        refine lv_iload_n hx hb dX7_noted_52 rfl (lv_at hl 2 rfl) ?_
        refine lv_iadd hx hb dX7_noted_53 ?_
        refine lv_eqi (y := nI ((70 + (3 * k)) + w)) (nI_add _ _) ?_
        refine r_iald hx hb hK hP 1 0 ((70 + (3 * k)) + w) (f := enc B) rfl rfl (by omega) (by omega) dX7_noted_54 ?_
        refine lv_goto (tgt := 61) hx hb dX7_noted_55 (by decide) ?_
        refine hend (0, (enc B) ((70 + (3 * k)) + w)) _ _ _ _ _ (by first | exact Lk_bad (k2_1 (fun q => q (Int32.not_le.mp c2))) nz1 | (rw [ec]; first | exact Lk_bad (k2_2 (nI_pos (by omega)) (b1_z c15)) nz2 | (rw [ew]; first | exact Lk_ok (k2_0 (nI_pos (by omega)) (b1_t c15)) (by unfold ntl; rw [if_pos (by omega)]; exact enc_n B (by omega) (by omega)) | exact Lk_ok (k2_0 (nI_pos (by omega)) (b1_t c15)) (by unfold ntl; rw [if_neg (by omega)])))) ?_ hP hD hS dX7_noted_61
        exact rfl
    · skip
      refine lv_iconst (v := 2) hx hb dX7_noted_18 (by decide) ?_
      refine lv_goto (tgt := 23) hx hb dX7_noted_19 (by decide) ?_
      refine kcallV (As := [.int 2]) (rest := []) (Wn := [mdO m0 m1 m2 m3 2 sv kp ln ca lt fi sd hs, arC cI m1 1170 (enc B), arC cI m2 60 T, arC cI m3 8 h]) X (c_X7_holds l D cI cZ cS cJ m0 m1 m2 m3 th sv kp ln ca lt fi sd hs B T h 2) (cwV 1 hts gX7_noted_X7_holds rfl rfl rfl (by decide +kernel) ⟨Nat.le_of_ble_eq_true rfl, Nat.le_of_ble_eq_true rfl⟩) hK hP hD hS hA [0, 1, 2, 3] rfl (by decide +kernel) rfl rfl rfl 0 7 rfl rfl rfl hl.1 rfl (Nat.le_of_ble_eq_true rfl) dX7_noted_23 ⟨Nat.le_of_ble_eq_true rfl, Nat.le_of_ble_eq_true rfl⟩ (fun H locs hP hD hS => ?_)
      refine lv_eqi (y := 0) (by decide) ?_
      refine lv_if_ne (tgt := 31) hx hb dX7_noted_26 (by decide) (fun h => absurd h (by decide)) (fun _ => ?_)
      refine lv_iconst (v := 0) hx hb dX7_noted_29 (by decide) ?_
      refine hend (2, 0) _ _ _ _ _ (by first | exact Lk_bad (k2_1 (fun q => q (Int32.not_le.mp c2))) nz1 | (rw [ec]; first | exact Lk_bad (k2_2 (nI_pos (by omega)) (b1_z c15)) nz2 | (rw [ew]; first | exact Lk_ok (k2_0 (nI_pos (by omega)) (b1_t c15)) (by unfold ntl; rw [if_pos (by omega)]; exact enc_n B (by omega) (by omega)) | exact Lk_ok (k2_0 (nI_pos (by omega)) (b1_t c15)) (by unfold ntl; rw [if_neg (by omega)])))) ?_ hP hD hS dX7_noted_30
      exact rfl
  · skip
    refine lv_iconst (v := 1) hx hb dX7_noted_5 (by decide) ?_
    refine lv_goto (tgt := 23) hx hb dX7_noted_6 (by decide) ?_
    refine kcallV (As := [.int 1]) (rest := []) (Wn := [mdO m0 m1 m2 m3 1 sv kp ln ca lt fi sd hs, arC cI m1 1170 (enc B), arC cI m2 60 T, arC cI m3 8 h]) X (c_X7_holds l D cI cZ cS cJ m0 m1 m2 m3 th sv kp ln ca lt fi sd hs B T h 1) (cwV 1 hts gX7_noted_X7_holds rfl rfl rfl (by decide +kernel) ⟨Nat.le_of_ble_eq_true rfl, Nat.le_of_ble_eq_true rfl⟩) hK hP hD hS hA [0, 1, 2, 3] rfl (by decide +kernel) rfl rfl rfl 0 7 rfl rfl rfl hl.1 rfl (Nat.le_of_ble_eq_true rfl) dX7_noted_23 ⟨Nat.le_of_ble_eq_true rfl, Nat.le_of_ble_eq_true rfl⟩ (fun H locs hP hD hS => ?_)
    refine lv_eqi (y := 0) (by decide) ?_
    refine lv_if_ne (tgt := 31) hx hb dX7_noted_26 (by decide) (fun h => absurd h (by decide)) (fun _ => ?_)
    refine lv_iconst (v := 0) hx hb dX7_noted_29 (by decide) ?_
    refine hend (1, 0) _ _ _ _ _ (by first | exact Lk_bad (k2_1 (fun q => q (Int32.not_le.mp c2))) nz1 | (rw [ec]; first | exact Lk_bad (k2_2 (nI_pos (by omega)) (b1_z c15)) nz2 | (rw [ew]; first | exact Lk_ok (k2_0 (nI_pos (by omega)) (b1_t c15)) (by unfold ntl; rw [if_pos (by omega)]; exact enc_n B (by omega) (by omega)) | exact Lk_ok (k2_0 (nI_pos (by omega)) (b1_t c15)) (by unfold ntl; rw [if_neg (by omega)])))) ?_ hP hD hS dX7_noted_30
    exact rfl

set_option maxHeartbeats 4000000 in
set_option maxRecDepth 100000 in
theorem c_X7_count (l : Launch) (D : va_G) (cI cZ cS cJ : ClassId) (m0 : Nat) (m1 : Nat) (m2 : Nat) (m3 : Nat) (th : Int32) (kp : Int32) (ln : Int32) (ca : Int32) (lt : Int32) (fi : Int32) (sd : Int32) (hs : Int64) (B : Nat → Nat → Nat → Int32) (T : Nat → Int32) (h : Nat → Int32) (z : Nat) (x : Int32) (hG : GB (B 0)) (h6 : B 0 6 = ht (B 0)) (hz6 : z ≤ 6) : CE (U := (Int32) × (Nat → Int32) × (Int32)) l yX7_count wsX7_count ({ frames := 6, cells := 0, slots := 0, locals := 134 }) D (tyL cI cZ cS cJ) [.ref m0, .int x] (List.flatten [mdO m0 m1 m2 m3 th (nI z) kp ln ca lt fi sd hs, arC cI m1 1170 (enc B), arC cI m2 60 T, arC cI m3 8 h]) (fun u => (Lk (k1 (inR x 0 14)) u.1 (cntS (B 0) z x.toNatClampNeg) u.2.2)) (fun u => some (.int u.2.2)) (fun u => List.flatten [mdO m0 m1 m2 m3 u.1 (nI z) kp ln ca lt fi sd hs, arC cI m1 1170 (enc B), arC cI m2 60 T, arC cI m3 8 u.2.1]) 0 0 := by
  refine CE_int (cc := cX7_count) (maxL := 2) (rt := .int) (by decide) rfl (Nat.le_of_ble_eq_true rfl) (fun _ _ => rfl) ?_
  intro p e s m below meth c A ls Q X hK hP hD hS hA hl hend
  have X : CallFix p m c cX7_count 2 s ([.ref m0, .int x] : List Value).toArray wsX7_count RX7 := X
  obtain ⟨hx, hb, hml, hown, hts⟩ := id X
  have hl : lv_has ls 2 [(0, .ref m0), (1, .int x)] := hl
  refine lv_aload_n hx hb dX7_count_0 rfl (lv_at hl 0 rfl) ?_
  refine lv_iload_n hx hb dX7_count_1 rfl (lv_at hl 1 rfl) ?_
  refine lv_iconst (v := 0) hx hb dX7_count_2 (by decide) ?_
  refine lv_bipush (v := 14) hx hb dX7_count_3 (by decide) ?_
  refine kcallS (As := [.int x, .int 0, .int 14]) (rest := [.ref m0]) (Wn := [mdO m0 m1 m2 m3 th (nI z) kp ln ca lt fi sd hs, arC cI m1 1170 (enc B), arC cI m2 60 T, arC cI m3 8 h]) X (c_X7_in l D cI cZ cS cJ x 0 14) (va_cwS 3 hts gX7_count_X7_in rfl rfl rfl (by decide +kernel) ⟨Nat.le_of_ble_eq_true rfl, Nat.le_of_ble_eq_true rfl⟩) hK hP hD hS hA [] rfl (by decide +kernel) rfl rfl rfl rfl hl.1 rfl (Nat.le_of_ble_eq_true rfl) dX7_count_5 ⟨Nat.le_of_ble_eq_true rfl, Nat.le_of_ble_eq_true rfl⟩ (fun H locs hP hD hS => ?_)
  refine lv_if_eq (tgt := 15) hx hb dX7_count_8 (by decide) (fun c8 => ?_) (fun c8 => ?_)
  · skip
    refine lv_iconst (v := 1) hx hb dX7_count_15 (by decide) ?_
    refine kcallV (As := [.int 1]) (rest := []) (Wn := [mdO m0 m1 m2 m3 1 (nI z) kp ln ca lt fi sd hs, arC cI m1 1170 (enc B), arC cI m2 60 T, arC cI m3 8 h]) X (c_X7_holds l D cI cZ cS cJ m0 m1 m2 m3 th (nI z) kp ln ca lt fi sd hs B T h 1) (cwV 1 hts gX7_count_X7_holds rfl rfl rfl (by decide +kernel) ⟨Nat.le_of_ble_eq_true rfl, Nat.le_of_ble_eq_true rfl⟩) hK hP hD hS hA [0, 1, 2, 3] rfl (by decide +kernel) rfl rfl rfl 0 7 rfl rfl rfl hl.1 rfl (Nat.le_of_ble_eq_true rfl) dX7_count_16 ⟨Nat.le_of_ble_eq_true rfl, Nat.le_of_ble_eq_true rfl⟩ (fun H locs hP hD hS => ?_)
    refine lv_eqi (y := 0) (by decide) ?_
    refine lv_if_eq (tgt := 30) hx hb dX7_count_19 (by decide) (fun _ => ?_) (fun h => absurd (by decide) h)
    refine lv_iconst (v := 0) hx hb dX7_count_30 (by decide) ?_
    refine hend (1, h, 0) _ _ _ _ _ (by first | exact Lk_bad (k1_1 (b1_z c8)) nz1 | (rw [ew]; exact Lk_ok (k1_0 (b1_t c8)) rfl)) ?_ hP hD hS dX7_count_31
    exact rfl
  · skip
    obtain ⟨w, hw, rfl⟩ := num_of (n := 14) (by decide) (b1_t c8)
    have hP : va_P D vwCl (List.flatten [mdO m0 m1 m2 m3 th (nI z) kp ln ca lt fi sd hs, arC cI m1 1170 (enc B), arC cI m2 60 T, arC cI m3 8 h]) _ := hP
    have hD : va_D A (List.flatten [mdO m0 m1 m2 m3 th (nI z) kp ln ca lt fi sd hs, arC cI m1 1170 (enc B), arC cI m2 60 T, arC cI m3 8 h]) := hD
    have hl : lv_has ls 2 [(0, .ref m0), (1, .int (nI w))] := hl
    have ew : (nI w).toNatClampNeg = w := nI_clamp (by omega)
    refine lv_iconst (v := 0) hx hb dX7_count_11 (by decide) ?_
    refine lv_goto (tgt := 16) hx hb dX7_count_12 (by decide) ?_
    refine kcallV (As := [.int 0]) (rest := []) (Wn := [mdO m0 m1 m2 m3 0 (nI z) kp ln ca lt fi sd hs, arC cI m1 1170 (enc B), arC cI m2 60 T, arC cI m3 8 h]) X (c_X7_holds l D cI cZ cS cJ m0 m1 m2 m3 th (nI z) kp ln ca lt fi sd hs B T h 0) (cwV 1 hts gX7_count_X7_holds rfl rfl rfl (by decide +kernel) ⟨Nat.le_of_ble_eq_true rfl, Nat.le_of_ble_eq_true rfl⟩) hK hP hD hS hA [0, 1, 2, 3] rfl (by decide +kernel) rfl rfl rfl 0 7 rfl rfl rfl hl.1 rfl (Nat.le_of_ble_eq_true rfl) dX7_count_16 ⟨Nat.le_of_ble_eq_true rfl, Nat.le_of_ble_eq_true rfl⟩ (fun H locs hP hD hS => ?_)
    refine lv_eqi (y := 1) (by decide) ?_
    refine lv_if_eq (tgt := 30) hx hb dX7_count_19 (by decide) (fun h => absurd h (by decide)) (fun _ => ?_)
    refine lv_aload_n hx hb dX7_count_22 rfl (lv_at hl 0 rfl) ?_
    refine lv_iload_n hx hb dX7_count_23 rfl (lv_at hl 1 rfl) ?_
    refine kcallVE (As := [.int (nI w)]) (rest := []) (Wn := fun u => [mdO m0 m1 m2 m3 0 (nI z) kp ln ca lt fi sd hs, arC cI m1 1170 (enc B), arC cI m2 60 T, arC cI m3 8 u]) X (c_X7_counted l D cI cZ cS cJ m0 m1 m2 m3 0 kp ln ca lt fi sd hs B T h z w (by omega) hG h6 (by omega)) (cwV 1 hts gX7_count_X7_counted rfl rfl rfl (by decide +kernel) ⟨Nat.le_of_ble_eq_true rfl, Nat.le_of_ble_eq_true rfl⟩) hK hP hD hS hA [0, 1, 2, 3] rfl (by decide +kernel) (fun _ => rfl) (fun _ => rfl) (fun _ => rfl) 0 7 rfl rfl rfl hl.1 rfl (Nat.le_of_ble_eq_true rfl) dX7_count_24 ⟨Nat.le_of_ble_eq_true rfl, Nat.le_of_ble_eq_true rfl⟩ (fun h9_1 H locs hu hP hD hS => ?_)
    have hP : va_P D vwCl (List.flatten [mdO m0 m1 m2 m3 0 (nI z) kp ln ca lt fi sd hs, arC cI m1 1170 (enc B), arC cI m2 60 T, arC cI m3 8 h9_1]) _ := hP
    have hD : va_D A (List.flatten [mdO m0 m1 m2 m3 0 (nI z) kp ln ca lt fi sd hs, arC cI m1 1170 (enc B), arC cI m2 60 T, arC cI m3 8 h9_1]) := hD
    refine lv_goto (tgt := 31) hx hb dX7_count_27 (by decide) ?_
    refine hend (0, h9_1, cntS (B 0) z w) _ _ _ _ _ (by first | exact Lk_bad (k1_1 (b1_z c8)) nz1 | (rw [ew]; exact Lk_ok (k1_0 (b1_t c8)) rfl)) ?_ hP hD hS dX7_count_31
    exact rfl

set_option maxHeartbeats 4000000 in
set_option maxRecDepth 100000 in
theorem c_X7_why (l : Launch) (D : va_G) (cI cZ cS cJ : ClassId) (m0 : Nat) (m1 : Nat) (m2 : Nat) (m3 : Nat) (th : Int32) (sv : Int32) (kp : Int32) (ln : Int32) (ca : Int32) (lt : Int32) (fi : Int32) (sd : Int32) (hs : Int64) (B : Nat → Nat → Nat → Int32) (T : Nat → Int32) (h : Nat → Int32) (x : Int32) (y : Int32) (hG : GB (B 0)) (h6 : B 0 6 = ht (B 0)) : CE (U := (Int32) × (Nat → Int32) × (Int32)) l yX7_why wsX7_why ({ frames := 7, cells := 0, slots := 0, locals := 155 }) D (tyL cI cZ cS cJ) [.ref m0, .int x, .int y] (List.flatten [mdO m0 m1 m2 m3 th sv kp ln ca lt fi sd hs, arC cI m1 1170 (enc B), arC cI m2 60 T, arC cI m3 8 h]) (fun u => (Lk (k2 (isB x ∧ (isR x ∨ ¬ inR y 4 5)) (inR y 0 5)) u.1 (whyS (B 0) x.toNatClampNeg y.toNatClampNeg) u.2.2)) (fun u => some (.int u.2.2)) (fun u => List.flatten [mdO m0 m1 m2 m3 u.1 sv kp ln ca lt fi sd hs, arC cI m1 1170 (enc B), arC cI m2 60 T, arC cI m3 8 u.2.1]) 0 0 := by
  refine CE_int (cc := cX7_why) (maxL := 4) (rt := .int) (by decide) rfl (Nat.le_of_ble_eq_true rfl) (fun _ _ => rfl) ?_
  intro p e s m below meth c A ls Q X hK hP hD hS hA hl hend
  have X : CallFix p m c cX7_why 4 s ([.ref m0, .int x, .int y] : List Value).toArray wsX7_why RX7 := X
  obtain ⟨hx, hb, hml, hown, hts⟩ := id X
  have hl : lv_has ls 4 [(0, .ref m0), (1, .int x), (2, .int y)] := hl
  refine lv_iload_n hx hb dX7_why_0 rfl (lv_at hl 1 rfl) ?_
  refine kcallS (As := [.int x]) (rest := []) (Wn := [mdO m0 m1 m2 m3 th sv kp ln ca lt fi sd hs, arC cI m1 1170 (enc B), arC cI m2 60 T, arC cI m3 8 h]) X (c_X7_isBalloon l D cI cZ cS cJ x) (va_cwS 1 hts gX7_why_X7_isBalloon rfl rfl rfl (by decide +kernel) ⟨Nat.le_of_ble_eq_true rfl, Nat.le_of_ble_eq_true rfl⟩) hK hP hD hS hA [] rfl (by decide +kernel) rfl rfl rfl rfl hl.1 rfl (Nat.le_of_ble_eq_true rfl) dX7_why_1 ⟨Nat.le_of_ble_eq_true rfl, Nat.le_of_ble_eq_true rfl⟩ (fun H locs hP hD hS => ?_)
  refine lv_if_eq (tgt := 27) hx hb dX7_why_4 (by decide) (fun c4 => ?_) (fun c4 => ?_)
  · skip
    refine lv_iconst (v := 0) hx hb dX7_why_27 (by decide) ?_
    refine lv_istore_n (lv' := [(3, .int 0), (0, .ref m0), (1, .int x), (2, .int y)]) hx hb dX7_why_28 rfl hl (by decide) rfl (fun ls hl => ?_)
    refine lv_aload_n hx hb dX7_why_29 rfl (lv_at hl 1 rfl) ?_
    refine lv_iload_n hx hb dX7_why_30 rfl (lv_at hl 0 rfl) ?_
    refine lv_if_ne (tgt := 38) hx hb dX7_why_31 (by decide) (fun h => absurd h (by decide)) (fun _ => ?_)
    refine lv_iconst (v := 1) hx hb dX7_why_34 (by decide) ?_
    refine lv_goto (tgt := 52) hx hb dX7_why_35 (by decide) ?_
    refine kcallV (As := [.int 1]) (rest := []) (Wn := [mdO m0 m1 m2 m3 1 sv kp ln ca lt fi sd hs, arC cI m1 1170 (enc B), arC cI m2 60 T, arC cI m3 8 h]) X (c_X7_holds l D cI cZ cS cJ m0 m1 m2 m3 th sv kp ln ca lt fi sd hs B T h 1) (cwV 1 hts gX7_why_X7_holds rfl rfl rfl (by decide +kernel) ⟨Nat.le_of_ble_eq_true rfl, Nat.le_of_ble_eq_true rfl⟩) hK hP hD hS hA [0, 1, 2, 3] rfl (by decide +kernel) rfl rfl rfl 0 7 rfl rfl rfl hl.1 rfl (Nat.le_of_ble_eq_true rfl) dX7_why_52 ⟨Nat.le_of_ble_eq_true rfl, Nat.le_of_ble_eq_true rfl⟩ (fun H locs hP hD hS => ?_)
    refine lv_eqi (y := 0) (by decide) ?_
    refine lv_if_eq (tgt := 67) hx hb dX7_why_55 (by decide) (fun _ => ?_) (fun h => absurd (by decide) h)
    refine lv_iconst (v := 0) hx hb dX7_why_67 (by decide) ?_
    refine hend (1, h, 0) _ _ _ _ _ (by first | exact Lk_bad (k2_1 (fun q => b1_z c4 q.1)) nz1 | exact Lk_bad (k2_1 (fun q => q.2.elim (b1_z c11) (fun w => w (b1_t c20)))) nz1 | (rw [ec]; first | exact Lk_bad (k2_2 ⟨b1_t c4, Or.inl (b1_t c11)⟩ (b1_z c44)) nz2 | exact Lk_bad (k2_2 ⟨b1_t c4, Or.inr (b1_z c20)⟩ (b1_z c44)) nz2 | (rw [ew]; first | exact Lk_ok (k2_0 ⟨b1_t c4, Or.inl (b1_t c11)⟩ (b1_t c44)) rfl | exact Lk_ok (k2_0 ⟨b1_t c4, Or.inr (b1_z c20)⟩ (b1_t c44)) rfl))) ?_ hP hD hS dX7_why_68
    exact rfl
  · skip
    refine lv_iload_n hx hb dX7_why_7 rfl (lv_at hl 1 rfl) ?_
    refine kcallS (As := [.int x]) (rest := []) (Wn := [mdO m0 m1 m2 m3 th sv kp ln ca lt fi sd hs, arC cI m1 1170 (enc B), arC cI m2 60 T, arC cI m3 8 h]) X (c_X7_isRibbon l D cI cZ cS cJ x) (va_cwS 1 hts gX7_why_X7_isRibbon rfl rfl rfl (by decide +kernel) ⟨Nat.le_of_ble_eq_true rfl, Nat.le_of_ble_eq_true rfl⟩) hK hP hD hS hA [] rfl (by decide +kernel) rfl rfl rfl rfl hl.1 rfl (Nat.le_of_ble_eq_true rfl) dX7_why_8 ⟨Nat.le_of_ble_eq_true rfl, Nat.le_of_ble_eq_true rfl⟩ (fun H locs hP hD hS => ?_)
    refine lv_if_ne (tgt := 23) hx hb dX7_why_11 (by decide) (fun c11 => ?_) (fun c11 => ?_)
    · skip
      obtain ⟨k, hk8, rfl⟩ := bal_of (b1_t c4)
      have hP : va_P D vwCl (List.flatten [mdO m0 m1 m2 m3 th sv kp ln ca lt fi sd hs, arC cI m1 1170 (enc B), arC cI m2 60 T, arC cI m3 8 h]) _ := hP
      have hD : va_D A (List.flatten [mdO m0 m1 m2 m3 th sv kp ln ca lt fi sd hs, arC cI m1 1170 (enc B), arC cI m2 60 T, arC cI m3 8 h]) := hD
      have hl : lv_has ls 4 [(0, .ref m0), (1, .int (nI k)), (2, .int y)] := hl
      have ec : (nI k).toNatClampNeg = k := nI_clamp (by omega)
      refine lv_iconst (v := 1) hx hb dX7_why_23 (by decide) ?_
      refine lv_goto (tgt := 28) hx hb dX7_why_24 (by decide) ?_
      refine lv_istore_n (lv' := [(3, .int 1), (0, .ref m0), (1, .int (nI k)), (2, .int y)]) hx hb dX7_why_28 rfl hl (by decide) rfl (fun ls hl => ?_)
      refine lv_aload_n hx hb dX7_why_29 rfl (lv_at hl 1 rfl) ?_
      refine lv_iload_n hx hb dX7_why_30 rfl (lv_at hl 0 rfl) ?_
      refine lv_if_ne (tgt := 38) hx hb dX7_why_31 (by decide) (fun _ => ?_) (fun h => absurd h (by decide))
      refine lv_iload_n hx hb dX7_why_38 rfl (lv_at hl 3 rfl) ?_
      refine lv_iconst (v := 0) hx hb dX7_why_39 (by decide) ?_
      refine lv_iconst (v := 5) hx hb dX7_why_40 (by decide) ?_
      refine kcallS (As := [.int y, .int 0, .int 5]) (rest := [.ref m0]) (Wn := [mdO m0 m1 m2 m3 th sv kp ln ca lt fi sd hs, arC cI m1 1170 (enc B), arC cI m2 60 T, arC cI m3 8 h]) X (c_X7_in l D cI cZ cS cJ y 0 5) (va_cwS 3 hts gX7_why_X7_in rfl rfl rfl (by decide +kernel) ⟨Nat.le_of_ble_eq_true rfl, Nat.le_of_ble_eq_true rfl⟩) hK hP hD hS hA [] rfl (by decide +kernel) rfl rfl rfl rfl hl.1 rfl (Nat.le_of_ble_eq_true rfl) dX7_why_41 ⟨Nat.le_of_ble_eq_true rfl, Nat.le_of_ble_eq_true rfl⟩ (fun H locs hP hD hS => ?_)
      refine lv_if_ne (tgt := 51) hx hb dX7_why_44 (by decide) (fun c44 => ?_) (fun c44 => ?_)
      · skip
        obtain ⟨w, hw, rfl⟩ := num_of (n := 5) (by decide) (b1_t c44)
        have hP : va_P D vwCl (List.flatten [mdO m0 m1 m2 m3 th sv kp ln ca lt fi sd hs, arC cI m1 1170 (enc B), arC cI m2 60 T, arC cI m3 8 h]) _ := hP
        have hD : va_D A (List.flatten [mdO m0 m1 m2 m3 th sv kp ln ca lt fi sd hs, arC cI m1 1170 (enc B), arC cI m2 60 T, arC cI m3 8 h]) := hD
        have hl : lv_has ls 4 [(3, .int 1), (0, .ref m0), (1, .int (nI k)), (2, .int (nI w))] := hl
        have ew : (nI w).toNatClampNeg = w := nI_clamp (by omega)
        have h7 : 4 ≤ w → k < 7 := by first | exact fun _ => rib_lt (b1_t c11) hk8 | exact fun q => absurd (in45 q hw) (b1_z c20)
        refine lv_iconst (v := 0) hx hb dX7_why_51 (by decide) ?_
        refine kcallV (As := [.int 0]) (rest := []) (Wn := [mdO m0 m1 m2 m3 0 sv kp ln ca lt fi sd hs, arC cI m1 1170 (enc B), arC cI m2 60 T, arC cI m3 8 h]) X (c_X7_holds l D cI cZ cS cJ m0 m1 m2 m3 th sv kp ln ca lt fi sd hs B T h 0) (cwV 1 hts gX7_why_X7_holds rfl rfl rfl (by decide +kernel) ⟨Nat.le_of_ble_eq_true rfl, Nat.le_of_ble_eq_true rfl⟩) hK hP hD hS hA [0, 1, 2, 3] rfl (by decide +kernel) rfl rfl rfl 0 7 rfl rfl rfl hl.1 rfl (Nat.le_of_ble_eq_true rfl) dX7_why_52 ⟨Nat.le_of_ble_eq_true rfl, Nat.le_of_ble_eq_true rfl⟩ (fun H locs hP hD hS => ?_)
        refine lv_eqi (y := 1) (by decide) ?_
        refine lv_if_eq (tgt := 67) hx hb dX7_why_55 (by decide) (fun h => absurd h (by decide)) (fun _ => ?_)
        refine lv_aload_n hx hb dX7_why_58 rfl (lv_at hl 1 rfl) ?_
        refine lv_iload_n hx hb dX7_why_59 rfl (lv_at hl 2 rfl) ?_
        refine lv_iload_n hx hb dX7_why_60 rfl (lv_at hl 3 rfl) ?_
        refine kcallVE (As := [.int (nI k), .int (nI w)]) (rest := []) (Wn := fun u => [mdO m0 m1 m2 m3 0 sv kp ln ca lt fi sd hs, arC cI m1 1170 (enc B), arC cI m2 60 T, arC cI m3 8 u]) X (c_X7_reason l D cI cZ cS cJ m0 m1 m2 m3 0 sv kp ln ca lt fi sd hs B T h k w (by omega) hG h6 (by omega) h7) (cwV 2 hts gX7_why_X7_reason rfl rfl rfl (by decide +kernel) ⟨Nat.le_of_ble_eq_true rfl, Nat.le_of_ble_eq_true rfl⟩) hK hP hD hS hA [0, 1, 2, 3] rfl (by decide +kernel) (fun _ => rfl) (fun _ => rfl) (fun _ => rfl) 0 7 rfl rfl rfl hl.1 rfl (Nat.le_of_ble_eq_true rfl) dX7_why_61 ⟨Nat.le_of_ble_eq_true rfl, Nat.le_of_ble_eq_true rfl⟩ (fun h9_1 H locs hu hP hD hS => ?_)
        have hP : va_P D vwCl (List.flatten [mdO m0 m1 m2 m3 0 sv kp ln ca lt fi sd hs, arC cI m1 1170 (enc B), arC cI m2 60 T, arC cI m3 8 h9_1]) _ := hP
        have hD : va_D A (List.flatten [mdO m0 m1 m2 m3 0 sv kp ln ca lt fi sd hs, arC cI m1 1170 (enc B), arC cI m2 60 T, arC cI m3 8 h9_1]) := hD
        refine lv_goto (tgt := 68) hx hb dX7_why_64 (by decide) ?_
        refine hend (0, h9_1, whyS (B 0) k w) _ _ _ _ _ (by first | exact Lk_bad (k2_1 (fun q => b1_z c4 q.1)) nz1 | exact Lk_bad (k2_1 (fun q => q.2.elim (b1_z c11) (fun w => w (b1_t c20)))) nz1 | (rw [ec]; first | exact Lk_bad (k2_2 ⟨b1_t c4, Or.inl (b1_t c11)⟩ (b1_z c44)) nz2 | exact Lk_bad (k2_2 ⟨b1_t c4, Or.inr (b1_z c20)⟩ (b1_z c44)) nz2 | (rw [ew]; first | exact Lk_ok (k2_0 ⟨b1_t c4, Or.inl (b1_t c11)⟩ (b1_t c44)) rfl | exact Lk_ok (k2_0 ⟨b1_t c4, Or.inr (b1_z c20)⟩ (b1_t c44)) rfl))) ?_ hP hD hS dX7_why_68
        exact rfl
      · skip
        refine lv_iconst (v := 2) hx hb dX7_why_47 (by decide) ?_
        refine lv_goto (tgt := 52) hx hb dX7_why_48 (by decide) ?_
        refine kcallV (As := [.int 2]) (rest := []) (Wn := [mdO m0 m1 m2 m3 2 sv kp ln ca lt fi sd hs, arC cI m1 1170 (enc B), arC cI m2 60 T, arC cI m3 8 h]) X (c_X7_holds l D cI cZ cS cJ m0 m1 m2 m3 th sv kp ln ca lt fi sd hs B T h 2) (cwV 1 hts gX7_why_X7_holds rfl rfl rfl (by decide +kernel) ⟨Nat.le_of_ble_eq_true rfl, Nat.le_of_ble_eq_true rfl⟩) hK hP hD hS hA [0, 1, 2, 3] rfl (by decide +kernel) rfl rfl rfl 0 7 rfl rfl rfl hl.1 rfl (Nat.le_of_ble_eq_true rfl) dX7_why_52 ⟨Nat.le_of_ble_eq_true rfl, Nat.le_of_ble_eq_true rfl⟩ (fun H locs hP hD hS => ?_)
        refine lv_eqi (y := 0) (by decide) ?_
        refine lv_if_eq (tgt := 67) hx hb dX7_why_55 (by decide) (fun _ => ?_) (fun h => absurd (by decide) h)
        refine lv_iconst (v := 0) hx hb dX7_why_67 (by decide) ?_
        refine hend (2, h, 0) _ _ _ _ _ (by first | exact Lk_bad (k2_1 (fun q => b1_z c4 q.1)) nz1 | exact Lk_bad (k2_1 (fun q => q.2.elim (b1_z c11) (fun w => w (b1_t c20)))) nz1 | (rw [ec]; first | exact Lk_bad (k2_2 ⟨b1_t c4, Or.inl (b1_t c11)⟩ (b1_z c44)) nz2 | exact Lk_bad (k2_2 ⟨b1_t c4, Or.inr (b1_z c20)⟩ (b1_z c44)) nz2 | (rw [ew]; first | exact Lk_ok (k2_0 ⟨b1_t c4, Or.inl (b1_t c11)⟩ (b1_t c44)) rfl | exact Lk_ok (k2_0 ⟨b1_t c4, Or.inr (b1_z c20)⟩ (b1_t c44)) rfl))) ?_ hP hD hS dX7_why_68
        exact rfl
    · skip
      refine lv_iload_n hx hb dX7_why_14 rfl (lv_at hl 2 rfl) ?_
      refine lv_iconst (v := 4) hx hb dX7_why_15 (by decide) ?_
      refine lv_iconst (v := 5) hx hb dX7_why_16 (by decide) ?_
      refine kcallS (As := [.int y, .int 4, .int 5]) (rest := []) (Wn := [mdO m0 m1 m2 m3 th sv kp ln ca lt fi sd hs, arC cI m1 1170 (enc B), arC cI m2 60 T, arC cI m3 8 h]) X (c_X7_in l D cI cZ cS cJ y 4 5) (va_cwS 3 hts gX7_why_X7_in rfl rfl rfl (by decide +kernel) ⟨Nat.le_of_ble_eq_true rfl, Nat.le_of_ble_eq_true rfl⟩) hK hP hD hS hA [] rfl (by decide +kernel) rfl rfl rfl rfl hl.1 rfl (Nat.le_of_ble_eq_true rfl) dX7_why_17 ⟨Nat.le_of_ble_eq_true rfl, Nat.le_of_ble_eq_true rfl⟩ (fun H locs hP hD hS => ?_)
      refine lv_if_ne (tgt := 27) hx hb dX7_why_20 (by decide) (fun c20 => ?_) (fun c20 => ?_)
      · skip
        refine lv_iconst (v := 0) hx hb dX7_why_27 (by decide) ?_
        refine lv_istore_n (lv' := [(3, .int 0), (0, .ref m0), (1, .int x), (2, .int y)]) hx hb dX7_why_28 rfl hl (by decide) rfl (fun ls hl => ?_)
        refine lv_aload_n hx hb dX7_why_29 rfl (lv_at hl 1 rfl) ?_
        refine lv_iload_n hx hb dX7_why_30 rfl (lv_at hl 0 rfl) ?_
        refine lv_if_ne (tgt := 38) hx hb dX7_why_31 (by decide) (fun h => absurd h (by decide)) (fun _ => ?_)
        refine lv_iconst (v := 1) hx hb dX7_why_34 (by decide) ?_
        refine lv_goto (tgt := 52) hx hb dX7_why_35 (by decide) ?_
        refine kcallV (As := [.int 1]) (rest := []) (Wn := [mdO m0 m1 m2 m3 1 sv kp ln ca lt fi sd hs, arC cI m1 1170 (enc B), arC cI m2 60 T, arC cI m3 8 h]) X (c_X7_holds l D cI cZ cS cJ m0 m1 m2 m3 th sv kp ln ca lt fi sd hs B T h 1) (cwV 1 hts gX7_why_X7_holds rfl rfl rfl (by decide +kernel) ⟨Nat.le_of_ble_eq_true rfl, Nat.le_of_ble_eq_true rfl⟩) hK hP hD hS hA [0, 1, 2, 3] rfl (by decide +kernel) rfl rfl rfl 0 7 rfl rfl rfl hl.1 rfl (Nat.le_of_ble_eq_true rfl) dX7_why_52 ⟨Nat.le_of_ble_eq_true rfl, Nat.le_of_ble_eq_true rfl⟩ (fun H locs hP hD hS => ?_)
        refine lv_eqi (y := 0) (by decide) ?_
        refine lv_if_eq (tgt := 67) hx hb dX7_why_55 (by decide) (fun _ => ?_) (fun h => absurd (by decide) h)
        refine lv_iconst (v := 0) hx hb dX7_why_67 (by decide) ?_
        refine hend (1, h, 0) _ _ _ _ _ (by first | exact Lk_bad (k2_1 (fun q => b1_z c4 q.1)) nz1 | exact Lk_bad (k2_1 (fun q => q.2.elim (b1_z c11) (fun w => w (b1_t c20)))) nz1 | (rw [ec]; first | exact Lk_bad (k2_2 ⟨b1_t c4, Or.inl (b1_t c11)⟩ (b1_z c44)) nz2 | exact Lk_bad (k2_2 ⟨b1_t c4, Or.inr (b1_z c20)⟩ (b1_z c44)) nz2 | (rw [ew]; first | exact Lk_ok (k2_0 ⟨b1_t c4, Or.inl (b1_t c11)⟩ (b1_t c44)) rfl | exact Lk_ok (k2_0 ⟨b1_t c4, Or.inr (b1_z c20)⟩ (b1_t c44)) rfl))) ?_ hP hD hS dX7_why_68
        exact rfl
      · skip
        obtain ⟨k, hk8, rfl⟩ := bal_of (b1_t c4)
        have hP : va_P D vwCl (List.flatten [mdO m0 m1 m2 m3 th sv kp ln ca lt fi sd hs, arC cI m1 1170 (enc B), arC cI m2 60 T, arC cI m3 8 h]) _ := hP
        have hD : va_D A (List.flatten [mdO m0 m1 m2 m3 th sv kp ln ca lt fi sd hs, arC cI m1 1170 (enc B), arC cI m2 60 T, arC cI m3 8 h]) := hD
        have hl : lv_has ls 4 [(0, .ref m0), (1, .int (nI k)), (2, .int y)] := hl
        have ec : (nI k).toNatClampNeg = k := nI_clamp (by omega)
        refine lv_iconst (v := 1) hx hb dX7_why_23 (by decide) ?_
        refine lv_goto (tgt := 28) hx hb dX7_why_24 (by decide) ?_
        refine lv_istore_n (lv' := [(3, .int 1), (0, .ref m0), (1, .int (nI k)), (2, .int y)]) hx hb dX7_why_28 rfl hl (by decide) rfl (fun ls hl => ?_)
        refine lv_aload_n hx hb dX7_why_29 rfl (lv_at hl 1 rfl) ?_
        refine lv_iload_n hx hb dX7_why_30 rfl (lv_at hl 0 rfl) ?_
        refine lv_if_ne (tgt := 38) hx hb dX7_why_31 (by decide) (fun _ => ?_) (fun h => absurd h (by decide))
        refine lv_iload_n hx hb dX7_why_38 rfl (lv_at hl 3 rfl) ?_
        refine lv_iconst (v := 0) hx hb dX7_why_39 (by decide) ?_
        refine lv_iconst (v := 5) hx hb dX7_why_40 (by decide) ?_
        refine kcallS (As := [.int y, .int 0, .int 5]) (rest := [.ref m0]) (Wn := [mdO m0 m1 m2 m3 th sv kp ln ca lt fi sd hs, arC cI m1 1170 (enc B), arC cI m2 60 T, arC cI m3 8 h]) X (c_X7_in l D cI cZ cS cJ y 0 5) (va_cwS 3 hts gX7_why_X7_in rfl rfl rfl (by decide +kernel) ⟨Nat.le_of_ble_eq_true rfl, Nat.le_of_ble_eq_true rfl⟩) hK hP hD hS hA [] rfl (by decide +kernel) rfl rfl rfl rfl hl.1 rfl (Nat.le_of_ble_eq_true rfl) dX7_why_41 ⟨Nat.le_of_ble_eq_true rfl, Nat.le_of_ble_eq_true rfl⟩ (fun H locs hP hD hS => ?_)
        refine lv_if_ne (tgt := 51) hx hb dX7_why_44 (by decide) (fun c44 => ?_) (fun c44 => ?_)
        · skip
          obtain ⟨w, hw, rfl⟩ := num_of (n := 5) (by decide) (b1_t c44)
          have hP : va_P D vwCl (List.flatten [mdO m0 m1 m2 m3 th sv kp ln ca lt fi sd hs, arC cI m1 1170 (enc B), arC cI m2 60 T, arC cI m3 8 h]) _ := hP
          have hD : va_D A (List.flatten [mdO m0 m1 m2 m3 th sv kp ln ca lt fi sd hs, arC cI m1 1170 (enc B), arC cI m2 60 T, arC cI m3 8 h]) := hD
          have hl : lv_has ls 4 [(3, .int 1), (0, .ref m0), (1, .int (nI k)), (2, .int (nI w))] := hl
          have ew : (nI w).toNatClampNeg = w := nI_clamp (by omega)
          have h7 : 4 ≤ w → k < 7 := by first | exact fun _ => rib_lt (b1_t c11) hk8 | exact fun q => absurd (in45 q hw) (b1_z c20)
          refine lv_iconst (v := 0) hx hb dX7_why_51 (by decide) ?_
          refine kcallV (As := [.int 0]) (rest := []) (Wn := [mdO m0 m1 m2 m3 0 sv kp ln ca lt fi sd hs, arC cI m1 1170 (enc B), arC cI m2 60 T, arC cI m3 8 h]) X (c_X7_holds l D cI cZ cS cJ m0 m1 m2 m3 th sv kp ln ca lt fi sd hs B T h 0) (cwV 1 hts gX7_why_X7_holds rfl rfl rfl (by decide +kernel) ⟨Nat.le_of_ble_eq_true rfl, Nat.le_of_ble_eq_true rfl⟩) hK hP hD hS hA [0, 1, 2, 3] rfl (by decide +kernel) rfl rfl rfl 0 7 rfl rfl rfl hl.1 rfl (Nat.le_of_ble_eq_true rfl) dX7_why_52 ⟨Nat.le_of_ble_eq_true rfl, Nat.le_of_ble_eq_true rfl⟩ (fun H locs hP hD hS => ?_)
          refine lv_eqi (y := 1) (by decide) ?_
          refine lv_if_eq (tgt := 67) hx hb dX7_why_55 (by decide) (fun h => absurd h (by decide)) (fun _ => ?_)
          refine lv_aload_n hx hb dX7_why_58 rfl (lv_at hl 1 rfl) ?_
          refine lv_iload_n hx hb dX7_why_59 rfl (lv_at hl 2 rfl) ?_
          refine lv_iload_n hx hb dX7_why_60 rfl (lv_at hl 3 rfl) ?_
          refine kcallVE (As := [.int (nI k), .int (nI w)]) (rest := []) (Wn := fun u => [mdO m0 m1 m2 m3 0 sv kp ln ca lt fi sd hs, arC cI m1 1170 (enc B), arC cI m2 60 T, arC cI m3 8 u]) X (c_X7_reason l D cI cZ cS cJ m0 m1 m2 m3 0 sv kp ln ca lt fi sd hs B T h k w (by omega) hG h6 (by omega) h7) (cwV 2 hts gX7_why_X7_reason rfl rfl rfl (by decide +kernel) ⟨Nat.le_of_ble_eq_true rfl, Nat.le_of_ble_eq_true rfl⟩) hK hP hD hS hA [0, 1, 2, 3] rfl (by decide +kernel) (fun _ => rfl) (fun _ => rfl) (fun _ => rfl) 0 7 rfl rfl rfl hl.1 rfl (Nat.le_of_ble_eq_true rfl) dX7_why_61 ⟨Nat.le_of_ble_eq_true rfl, Nat.le_of_ble_eq_true rfl⟩ (fun h9_2 H locs hu hP hD hS => ?_)
          have hP : va_P D vwCl (List.flatten [mdO m0 m1 m2 m3 0 sv kp ln ca lt fi sd hs, arC cI m1 1170 (enc B), arC cI m2 60 T, arC cI m3 8 h9_2]) _ := hP
          have hD : va_D A (List.flatten [mdO m0 m1 m2 m3 0 sv kp ln ca lt fi sd hs, arC cI m1 1170 (enc B), arC cI m2 60 T, arC cI m3 8 h9_2]) := hD
          refine lv_goto (tgt := 68) hx hb dX7_why_64 (by decide) ?_
          refine hend (0, h9_2, whyS (B 0) k w) _ _ _ _ _ (by first | exact Lk_bad (k2_1 (fun q => b1_z c4 q.1)) nz1 | exact Lk_bad (k2_1 (fun q => q.2.elim (b1_z c11) (fun w => w (b1_t c20)))) nz1 | (rw [ec]; first | exact Lk_bad (k2_2 ⟨b1_t c4, Or.inl (b1_t c11)⟩ (b1_z c44)) nz2 | exact Lk_bad (k2_2 ⟨b1_t c4, Or.inr (b1_z c20)⟩ (b1_z c44)) nz2 | (rw [ew]; first | exact Lk_ok (k2_0 ⟨b1_t c4, Or.inl (b1_t c11)⟩ (b1_t c44)) rfl | exact Lk_ok (k2_0 ⟨b1_t c4, Or.inr (b1_z c20)⟩ (b1_t c44)) rfl))) ?_ hP hD hS dX7_why_68
          exact rfl
        · skip
          refine lv_iconst (v := 2) hx hb dX7_why_47 (by decide) ?_
          refine lv_goto (tgt := 52) hx hb dX7_why_48 (by decide) ?_
          refine kcallV (As := [.int 2]) (rest := []) (Wn := [mdO m0 m1 m2 m3 2 sv kp ln ca lt fi sd hs, arC cI m1 1170 (enc B), arC cI m2 60 T, arC cI m3 8 h]) X (c_X7_holds l D cI cZ cS cJ m0 m1 m2 m3 th sv kp ln ca lt fi sd hs B T h 2) (cwV 1 hts gX7_why_X7_holds rfl rfl rfl (by decide +kernel) ⟨Nat.le_of_ble_eq_true rfl, Nat.le_of_ble_eq_true rfl⟩) hK hP hD hS hA [0, 1, 2, 3] rfl (by decide +kernel) rfl rfl rfl 0 7 rfl rfl rfl hl.1 rfl (Nat.le_of_ble_eq_true rfl) dX7_why_52 ⟨Nat.le_of_ble_eq_true rfl, Nat.le_of_ble_eq_true rfl⟩ (fun H locs hP hD hS => ?_)
          refine lv_eqi (y := 0) (by decide) ?_
          refine lv_if_eq (tgt := 67) hx hb dX7_why_55 (by decide) (fun _ => ?_) (fun h => absurd (by decide) h)
          refine lv_iconst (v := 0) hx hb dX7_why_67 (by decide) ?_
          refine hend (2, h, 0) _ _ _ _ _ (by first | exact Lk_bad (k2_1 (fun q => b1_z c4 q.1)) nz1 | exact Lk_bad (k2_1 (fun q => q.2.elim (b1_z c11) (fun w => w (b1_t c20)))) nz1 | (rw [ec]; first | exact Lk_bad (k2_2 ⟨b1_t c4, Or.inl (b1_t c11)⟩ (b1_z c44)) nz2 | exact Lk_bad (k2_2 ⟨b1_t c4, Or.inr (b1_z c20)⟩ (b1_z c44)) nz2 | (rw [ew]; first | exact Lk_ok (k2_0 ⟨b1_t c4, Or.inl (b1_t c11)⟩ (b1_t c44)) rfl | exact Lk_ok (k2_0 ⟨b1_t c4, Or.inr (b1_z c20)⟩ (b1_t c44)) rfl))) ?_ hP hD hS dX7_why_68
          exact rfl

set_option maxHeartbeats 4000000 in
set_option maxRecDepth 100000 in
theorem c_X7_stopped (l : Launch) (D : va_G) (cI cZ cS cJ : ClassId) (m0 : Nat) (m1 : Nat) (m2 : Nat) (m3 : Nat) (th : Int32) (sv : Int32) (kp : Int32) (ln : Int32) (ca : Int32) (lt : Int32) (fi : Int32) (sd : Int32) (hs : Int64) (B : Nat → Nat → Nat → Int32) (T : Nat → Int32) (h : Nat → Int32) (x : Int32) (hG : GB (B 0)) (h6 : B 0 6 = ht (B 0)) : CE (U := (Int32) × (Int32)) l yX7_stopped wsX7_stopped ({ frames := 1, cells := 0, slots := 0, locals := 22 }) D (tyL cI cZ cS cJ) [.ref m0, .int x] (List.flatten [mdO m0 m1 m2 m3 th sv kp ln ca lt fi sd hs, arC cI m1 1170 (enc B), arC cI m2 60 T, arC cI m3 8 h]) (fun u => (Lk (k1 (inR x 0 1)) u.1 (stoS (B 0) x.toNatClampNeg) u.2)) (fun u => some (.int u.2)) (fun u => List.flatten [mdO m0 m1 m2 m3 u.1 sv kp ln ca lt fi sd hs, arC cI m1 1170 (enc B), arC cI m2 60 T, arC cI m3 8 h]) 0 0 := by
  refine CE_int (cc := cX7_stopped) (maxL := 2) (rt := .int) (by decide) rfl (Nat.le_of_ble_eq_true rfl) (fun _ _ => rfl) ?_
  intro p e s m below meth c A ls Q X hK hP hD hS hA hl hend
  have X : CallFix p m c cX7_stopped 2 s ([.ref m0, .int x] : List Value).toArray wsX7_stopped RX7 := X
  obtain ⟨hx, hb, hml, hown, hts⟩ := id X
  have hl : lv_has ls 2 [(0, .ref m0), (1, .int x)] := hl
  have hinX7 : ∀ w ∈ u_ws RX7 TX7 12, w ∈ wsX7_stopped := by decide +kernel
  refine lv_aload_n hx hb dX7_stopped_0 rfl (lv_at hl 0 rfl) ?_
  refine lv_iload_n hx hb dX7_stopped_1 rfl (lv_at hl 1 rfl) ?_
  refine lv_iconst (v := 0) hx hb dX7_stopped_2 (by decide) ?_
  refine lv_iconst (v := 1) hx hb dX7_stopped_3 (by decide) ?_
  refine kcallS (As := [.int x, .int 0, .int 1]) (rest := [.ref m0]) (Wn := [mdO m0 m1 m2 m3 th sv kp ln ca lt fi sd hs, arC cI m1 1170 (enc B), arC cI m2 60 T, arC cI m3 8 h]) X (c_X7_in l D cI cZ cS cJ x 0 1) (va_cwS 3 hts gX7_stopped_X7_in rfl rfl rfl (by decide +kernel) ⟨Nat.le_of_ble_eq_true rfl, Nat.le_of_ble_eq_true rfl⟩) hK hP hD hS hA [] rfl (by decide +kernel) rfl rfl rfl rfl hl.1 rfl (Nat.le_of_ble_eq_true rfl) dX7_stopped_4 ⟨Nat.le_of_ble_eq_true rfl, Nat.le_of_ble_eq_true rfl⟩ (fun H locs hP hD hS => ?_)
  refine lv_if_eq (tgt := 14) hx hb dX7_stopped_7 (by decide) (fun c7 => ?_) (fun c7 => ?_)
  · skip
    refine lv_iconst (v := 1) hx hb dX7_stopped_14 (by decide) ?_
    refine kcallV (As := [.int 1]) (rest := []) (Wn := [mdO m0 m1 m2 m3 1 sv kp ln ca lt fi sd hs, arC cI m1 1170 (enc B), arC cI m2 60 T, arC cI m3 8 h]) X (c_X7_holds l D cI cZ cS cJ m0 m1 m2 m3 th sv kp ln ca lt fi sd hs B T h 1) (cwV 1 hts gX7_stopped_X7_holds rfl rfl rfl (by decide +kernel) ⟨Nat.le_of_ble_eq_true rfl, Nat.le_of_ble_eq_true rfl⟩) hK hP hD hS hA [0, 1, 2, 3] rfl (by decide +kernel) rfl rfl rfl 0 7 rfl rfl rfl hl.1 rfl (Nat.le_of_ble_eq_true rfl) dX7_stopped_15 ⟨Nat.le_of_ble_eq_true rfl, Nat.le_of_ble_eq_true rfl⟩ (fun H locs hP hD hS => ?_)
    refine lv_eqi (y := 0) (by decide) ?_
    refine lv_if_eq (tgt := 33) hx hb dX7_stopped_18 (by decide) (fun _ => ?_) (fun h => absurd (by decide) h)
    refine lv_iconst (v := 0) hx hb dX7_stopped_33 (by decide) ?_
    refine hend (1, 0) _ _ _ _ _ (by first | exact Lk_bad (k1_1 (b1_z c7)) nz1 | (rw [ew]; exact Lk_ok (k1_0 (b1_t c7)) (enc_sto B hw))) ?_ hP hD hS dX7_stopped_34
    exact rfl
  · skip
    obtain ⟨w, hw, rfl⟩ := num_of (n := 1) (by decide) (b1_t c7)
    have hP : va_P D vwCl (List.flatten [mdO m0 m1 m2 m3 th sv kp ln ca lt fi sd hs, arC cI m1 1170 (enc B), arC cI m2 60 T, arC cI m3 8 h]) _ := hP
    have hD : va_D A (List.flatten [mdO m0 m1 m2 m3 th sv kp ln ca lt fi sd hs, arC cI m1 1170 (enc B), arC cI m2 60 T, arC cI m3 8 h]) := hD
    have hl : lv_has ls 2 [(0, .ref m0), (1, .int (nI w))] := hl
    have ew : (nI w).toNatClampNeg = w := nI_clamp (by omega)
    refine lv_iconst (v := 0) hx hb dX7_stopped_10 (by decide) ?_
    refine lv_goto (tgt := 15) hx hb dX7_stopped_11 (by decide) ?_
    refine kcallV (As := [.int 0]) (rest := []) (Wn := [mdO m0 m1 m2 m3 0 sv kp ln ca lt fi sd hs, arC cI m1 1170 (enc B), arC cI m2 60 T, arC cI m3 8 h]) X (c_X7_holds l D cI cZ cS cJ m0 m1 m2 m3 th sv kp ln ca lt fi sd hs B T h 0) (cwV 1 hts gX7_stopped_X7_holds rfl rfl rfl (by decide +kernel) ⟨Nat.le_of_ble_eq_true rfl, Nat.le_of_ble_eq_true rfl⟩) hK hP hD hS hA [0, 1, 2, 3] rfl (by decide +kernel) rfl rfl rfl 0 7 rfl rfl rfl hl.1 rfl (Nat.le_of_ble_eq_true rfl) dX7_stopped_15 ⟨Nat.le_of_ble_eq_true rfl, Nat.le_of_ble_eq_true rfl⟩ (fun H locs hP hD hS => ?_)
    refine lv_eqi (y := 1) (by decide) ?_
    refine lv_if_eq (tgt := 33) hx hb dX7_stopped_18 (by decide) (fun h => absurd h (by decide)) (fun _ => ?_)
    refine lv_aload_n hx hb dX7_stopped_21 rfl (lv_at hl 0 rfl) ?_
    refine va_get (D := D) (ci := 7) (v := .ref m1) (C := RX7) (T := TX7) (N := 12) hx hb hts hinX7 hown hK hP 0 rfl rfl 1 (by decide) (hts (.fieldLink RX7 7 "RibbonBalloonsModel" "s" "[I") (by decide +kernel)) (fun _ h9 => h9) rfl dX7_stopped_22 ?_
    refine lv_bipush (v := 6) hx hb dX7_stopped_25 (by decide) ?_
    refine lv_iload_n hx hb dX7_stopped_27 rfl (lv_at hl 1 rfl) ?_
    refine lv_iadd hx hb dX7_stopped_28 ?_
    refine lv_eqi (y := nI (6 + w)) (nI_add _ _) ?_
    refine r_iald hx hb hK hP 1 0 (6 + w) (f := enc B) rfl rfl (by omega) (by omega) dX7_stopped_29 ?_
    refine lv_goto (tgt := 34) hx hb dX7_stopped_30 (by decide) ?_
    refine hend (0, (enc B) (6 + w)) _ _ _ _ _ (by first | exact Lk_bad (k1_1 (b1_z c7)) nz1 | (rw [ew]; exact Lk_ok (k1_0 (b1_t c7)) (enc_sto B hw))) ?_ hP hD hS dX7_stopped_34
    exact rfl

set_option maxHeartbeats 4000000 in
set_option maxRecDepth 100000 in
theorem c_X7_dropped0 (l : Launch) (D : va_G) (cI cZ cS cJ : ClassId) (m0 : Nat) (m1 : Nat) (m2 : Nat) (m3 : Nat) (th : Int32) (sv : Int32) (kp : Int32) (ln : Int32) (ca : Int32) (lt : Int32) (fi : Int32) (sd : Int32) (hs : Int64) (B : Nat → Nat → Nat → Int32) (T : Nat → Int32) (h : Nat → Int32) (b : Nat) (hb8 : b < 8) (hG : GB (B 0)) (h6 : B 0 6 = ht (B 0)) : CE (U := (Nat → Nat → Nat → Int32) × (Nat → Int32)) l yX7_dropped wsX7_dropped ({ frames := 5, cells := 0, slots := 0, locals := 113 }) D (tyL cI cZ cS cJ) [.ref m0, .int (nI b), .int 0] (List.flatten [mdO m0 m1 m2 m3 th sv kp ln ca lt fi sd hs, arC cI m1 1170 (enc B), arC cI m2 60 T, arC cI m3 8 h]) (fun u => (∀ a, a < 8 → u.1 a = B a)) (fun u => some (.int (drpS (B 0) b 0))) (fun u => List.flatten [mdO m0 m1 m2 m3 th sv kp ln ca lt fi sd hs, arC cI m1 1170 (enc u.1), arC cI m2 60 T, arC cI m3 8 u.2]) 0 0 := by
  refine CE_int (cc := cX7_dropped) (maxL := 6) (rt := .int) (by decide) rfl (Nat.le_of_ble_eq_true rfl) (fun _ _ => rfl) ?_
  intro p e s m below meth c A ls Q X hK hP hD hS hA hl hend
  have X : CallFix p m c cX7_dropped 6 s ([.ref m0, .int (nI b), .int 0] : List Value).toArray wsX7_dropped RX7 := X
  obtain ⟨hx, hb, hml, hown, hts⟩ := id X
  have hl : lv_has ls 6 [(0, .ref m0), (1, .int (nI b)), (2, .int 0)] := hl
  have hinX7 : ∀ w ∈ u_ws RX7 TX7 12, w ∈ wsX7_dropped := by decide +kernel
  refine lv_aload_n hx hb dX7_dropped_0 rfl (lv_at hl 0 rfl) ?_
  refine lv_iconst (v := 0) hx hb dX7_dropped_1 (by decide) ?_
  refine lv_eqi (y := nI (130 * 0)) (rfl) ?_
  refine lv_iload_n hx hb dX7_dropped_2 rfl (lv_at hl 1 rfl) ?_
  refine lv_iconst (v := 1) hx hb dX7_dropped_3 (by decide) ?_
  refine kcallV (As := [.int (nI (130 * 0)), .int (nI b), .int 1]) (rest := []) (Wn := [mdO m0 m1 m2 m3 th sv kp ln ca lt fi sd hs, arC cI m1 1170 (enc B), arC cI m2 60 T, arC cI m3 8 h]) X (c_X7_of1 l D cI cZ cS cJ m0 m1 m2 m3 th sv kp ln ca lt fi sd hs B T h 0 b (by omega) (by omega)) (cwV 3 hts gX7_dropped_X7_of rfl rfl rfl (by decide +kernel) ⟨Nat.le_of_ble_eq_true rfl, Nat.le_of_ble_eq_true rfl⟩) hK hP hD hS hA [0, 1, 2, 3] rfl (by decide +kernel) rfl rfl rfl 0 7 rfl rfl rfl hl.1 rfl (Nat.le_of_ble_eq_true rfl) dX7_dropped_4 ⟨Nat.le_of_ble_eq_true rfl, Nat.le_of_ble_eq_true rfl⟩ (fun H locs hP hD hS => ?_)
  refine lv_if_ne (tgt := 14) hx hb dX7_dropped_7 (by decide) (fun c7 => ?_) (fun c7 => ?_)
  · skip
    have hGd : GB (dpF (B 0) b) := GB_dp hG hb8 c7
    refine lv_aload_n hx hb dX7_dropped_14 rfl (lv_at hl 0 rfl) ?_
    refine lv_iconst (v := 0) hx hb dX7_dropped_15 (by decide) ?_
    refine lv_bipush (v := 8) hx hb dX7_dropped_16 (by decide) ?_
    refine kcallV (As := [.int 0, .int 8]) (rest := []) (Wn := [mdO m0 m1 m2 m3 th sv kp ln ca lt fi sd hs, arC cI m1 1170 (enc (uA B 8 (B 0))), arC cI m2 60 T, arC cI m3 8 h]) X (c_X7_copies l D cI cZ cS cJ m0 m1 m2 m3 th sv kp ln ca lt fi sd hs B T h 0 8 (by omega) (by omega) (by omega)) (cwV 2 hts gX7_dropped_X7_copies rfl rfl rfl (by decide +kernel) ⟨Nat.le_of_ble_eq_true rfl, Nat.le_of_ble_eq_true rfl⟩) hK hP hD hS hA [0, 1, 2, 3] rfl (by decide +kernel) rfl rfl rfl 0 7 rfl rfl rfl hl.1 rfl (Nat.le_of_ble_eq_true rfl) dX7_dropped_18 ⟨Nat.le_of_ble_eq_true rfl, Nat.le_of_ble_eq_true rfl⟩ (fun H locs hP hD hS => ?_)
    refine lv_aload_n hx hb dX7_dropped_21 rfl (lv_at hl 0 rfl) ?_
    refine lv_sipush (v := 1040) hx hb dX7_dropped_22 (by decide) ?_
    refine lv_eqi (y := nI (130 * 8)) (rfl) ?_
    refine lv_iload_n hx hb dX7_dropped_25 rfl (lv_at hl 1 rfl) ?_
    refine lv_iconst (v := 1) hx hb dX7_dropped_26 (by decide) ?_
    refine lv_iconst (v := (-1)) hx hb dX7_dropped_27 (by decide) ?_
    refine kcallV (As := [.int (nI (130 * 8)), .int (nI b), .int 1, .int (-1)]) (rest := []) (Wn := [mdO m0 m1 m2 m3 th sv kp ln ca lt fi sd hs, arC cI m1 1170 (enc (uA (uA B 8 (B 0)) 8 (u2 ((uA B 8 (B 0)) 8) 1 b (((uA B 8 (B 0)) 8 1 b) + (-1))))), arC cI m2 60 T, arC cI m3 8 h]) X (c_X7_adds1 l D cI cZ cS cJ m0 m1 m2 m3 th sv kp ln ca lt fi sd hs (uA B 8 (B 0)) T h 8 b (-1) (by omega) (by omega)) (cwV 4 hts gX7_dropped_X7_adds rfl rfl rfl (by decide +kernel) ⟨Nat.le_of_ble_eq_true rfl, Nat.le_of_ble_eq_true rfl⟩) hK hP hD hS hA [0, 1, 2, 3] rfl (by decide +kernel) rfl rfl rfl 0 7 rfl rfl rfl hl.1 rfl (Nat.le_of_ble_eq_true rfl) dX7_dropped_28 ⟨Nat.le_of_ble_eq_true rfl, Nat.le_of_ble_eq_true rfl⟩ (fun H locs hP hD hS => ?_)
    obtain ⟨hP, hD⟩ := PD_cg hP hD 1 (enc (uA B 8 (dpF (B 0) b))) rfl (fun j _ => by rw [uA_s, uA_uA, dp_u]; exact enc_dp _ _ _ _ j) (wn := List.flatten [mdO m0 m1 m2 m3 th sv kp ln ca lt fi sd hs, arC cI m1 1170 (enc (uA B 8 (dpF (B 0) b))), arC cI m2 60 T, arC cI m3 8 h]) rfl
    refine lv_aload_n hx hb dX7_dropped_31 rfl (lv_at hl 0 rfl) ?_
    refine lv_sipush (v := 1040) hx hb dX7_dropped_32 (by decide) ?_
    refine lv_eqi (y := nI (130 * 8)) (rfl) ?_
    refine kcallV (As := [.int (nI (130 * 8))]) (rest := []) (Wn := [mdO m0 m1 m2 m3 th sv kp ln ca lt fi sd hs, arC cI m1 1170 (enc (uA B 8 (dpF (B 0) b))), arC cI m2 60 T, arC cI m3 8 (ht ((uA B 8 (dpF (B 0) b)) 8))]) X (c_X7_allHeights l D cI cZ cS cJ m0 m1 m2 m3 th sv kp ln ca lt fi sd hs (uA B 8 (dpF (B 0) b)) T h 8 (by omega) (by rw [uA_s]; exact GB_T hGd)) (cwV 1 hts gX7_dropped_X7_allHeights rfl rfl rfl (by decide +kernel) ⟨Nat.le_of_ble_eq_true rfl, Nat.le_of_ble_eq_true rfl⟩) hK hP hD hS hA [0, 1, 2, 3] rfl (by decide +kernel) rfl rfl rfl 0 7 rfl rfl rfl hl.1 rfl (Nat.le_of_ble_eq_true rfl) dX7_dropped_35 ⟨Nat.le_of_ble_eq_true rfl, Nat.le_of_ble_eq_true rfl⟩ (fun H locs hP hD hS => ?_)
    obtain ⟨hP, hD⟩ := PD_cg hP hD 3 (ht (dpF (B 0) b)) rfl (fun j _ => by rw [uA_s]) (wn := List.flatten [mdO m0 m1 m2 m3 th sv kp ln ca lt fi sd hs, arC cI m1 1170 (enc (uA B 8 (dpF (B 0) b))), arC cI m2 60 T, arC cI m3 8 (ht (dpF (B 0) b))]) rfl
    refine lv_eqi (y := hsm (dpF (B 0) b)) (by rw [uA_s]) ?_
    refine lv_istore_n (lv' := [(3, .int (hsm (dpF (B 0) b))), (0, .ref m0), (1, .int (nI b)), (2, .int 0)]) hx hb dX7_dropped_38 rfl hl (by decide) rfl (fun ls hl => ?_)
    refine lv_iload_n hx hb dX7_dropped_39 rfl (lv_at hl 3 rfl) ?_
    refine lv_iconst (v := 2) hx hb dX7_dropped_40 (by decide) ?_
    refine lv_icmp_ge (tgt := 59) hx hb dX7_dropped_41 (by decide) (fun h => absurd h (by decide)) (fun _ => ?_)
    refine lv_iload_n hx hb dX7_dropped_44 rfl (lv_at hl 3 rfl) ?_
    refine lv_if_ne (tgt := 57) hx hb dX7_dropped_45 (by decide) (fun h => absurd h (by decide)) (fun _ => ?_)
    refine lv_aload_n hx hb dX7_dropped_48 rfl (lv_at hl 1 rfl) ?_
    refine va_get (D := D) (ci := 7) (v := .ref m3) (C := RX7) (T := TX7) (N := 12) hx hb hts hinX7 hown hK hP 0 rfl rfl 10 (by decide) (hts (.fieldLink RX7 16 "RibbonBalloonsModel" "heights" "[I") (by decide +kernel)) (fun _ h9 => h9) rfl dX7_dropped_49 ?_
    refine lv_iload_n hx hb dX7_dropped_52 rfl (lv_at hl 2 rfl) ?_
    refine r_iald hx hb hK hP 3 0 b (f := ht (dpF (B 0) b)) rfl rfl (by omega) (by omega) dX7_dropped_53 ?_
    refine lv_goto (tgt := 58) hx hb dX7_dropped_54 (by decide) ?_
    refine hend ((uA B 8 (dpF (B 0) b)), ht (dpF (B 0) b)) _ _ _ _ _ (by exact fun a ha => uA_n (a := 8) (k := a) _ _ (by omega)) ?_ hP hD hS dX7_dropped_58
    first | exact drp0 c7 | exact drp1 c7
  · skip
    refine lv_sipush (v := (-1000)) hx hb dX7_dropped_10 (by decide) ?_
    refine hend (B, h) _ _ _ _ _ (by exact fun _ _ => rfl) ?_ hP hD hS dX7_dropped_13
    exact drp_z c7

set_option maxHeartbeats 4000000 in
set_option maxRecDepth 100000 in
theorem c_X7_dropped1 (l : Launch) (D : va_G) (cI cZ cS cJ : ClassId) (m0 : Nat) (m1 : Nat) (m2 : Nat) (m3 : Nat) (th : Int32) (sv : Int32) (kp : Int32) (ln : Int32) (ca : Int32) (lt : Int32) (fi : Int32) (sd : Int32) (hs : Int64) (B : Nat → Nat → Nat → Int32) (T : Nat → Int32) (h : Nat → Int32) (b : Nat) (hb8 : b < 8) (hG : GB (B 0)) (h6 : B 0 6 = ht (B 0)) : CE (U := (Nat → Nat → Nat → Int32) × (Nat → Int32)) l yX7_dropped wsX7_dropped ({ frames := 5, cells := 0, slots := 0, locals := 113 }) D (tyL cI cZ cS cJ) [.ref m0, .int (nI b), .int 1] (List.flatten [mdO m0 m1 m2 m3 th sv kp ln ca lt fi sd hs, arC cI m1 1170 (enc B), arC cI m2 60 T, arC cI m3 8 h]) (fun u => (∀ a, a < 8 → u.1 a = B a)) (fun u => some (.int (drpS (B 0) b 1))) (fun u => List.flatten [mdO m0 m1 m2 m3 th sv kp ln ca lt fi sd hs, arC cI m1 1170 (enc u.1), arC cI m2 60 T, arC cI m3 8 u.2]) 0 0 := by
  refine CE_int (cc := cX7_dropped) (maxL := 6) (rt := .int) (by decide) rfl (Nat.le_of_ble_eq_true rfl) (fun _ _ => rfl) ?_
  intro p e s m below meth c A ls Q X hK hP hD hS hA hl hend
  have X : CallFix p m c cX7_dropped 6 s ([.ref m0, .int (nI b), .int 1] : List Value).toArray wsX7_dropped RX7 := X
  obtain ⟨hx, hb, hml, hown, hts⟩ := id X
  have hl : lv_has ls 6 [(0, .ref m0), (1, .int (nI b)), (2, .int 1)] := hl
  refine lv_aload_n hx hb dX7_dropped_0 rfl (lv_at hl 0 rfl) ?_
  refine lv_iconst (v := 0) hx hb dX7_dropped_1 (by decide) ?_
  refine lv_eqi (y := nI (130 * 0)) (rfl) ?_
  refine lv_iload_n hx hb dX7_dropped_2 rfl (lv_at hl 1 rfl) ?_
  refine lv_iconst (v := 1) hx hb dX7_dropped_3 (by decide) ?_
  refine kcallV (As := [.int (nI (130 * 0)), .int (nI b), .int 1]) (rest := []) (Wn := [mdO m0 m1 m2 m3 th sv kp ln ca lt fi sd hs, arC cI m1 1170 (enc B), arC cI m2 60 T, arC cI m3 8 h]) X (c_X7_of1 l D cI cZ cS cJ m0 m1 m2 m3 th sv kp ln ca lt fi sd hs B T h 0 b (by omega) (by omega)) (cwV 3 hts gX7_dropped_X7_of rfl rfl rfl (by decide +kernel) ⟨Nat.le_of_ble_eq_true rfl, Nat.le_of_ble_eq_true rfl⟩) hK hP hD hS hA [0, 1, 2, 3] rfl (by decide +kernel) rfl rfl rfl 0 7 rfl rfl rfl hl.1 rfl (Nat.le_of_ble_eq_true rfl) dX7_dropped_4 ⟨Nat.le_of_ble_eq_true rfl, Nat.le_of_ble_eq_true rfl⟩ (fun H locs hP hD hS => ?_)
  refine lv_if_ne (tgt := 14) hx hb dX7_dropped_7 (by decide) (fun c7 => ?_) (fun c7 => ?_)
  · skip
    have hGd : GB (dpF (B 0) b) := GB_dp hG hb8 c7
    refine lv_aload_n hx hb dX7_dropped_14 rfl (lv_at hl 0 rfl) ?_
    refine lv_iconst (v := 0) hx hb dX7_dropped_15 (by decide) ?_
    refine lv_bipush (v := 8) hx hb dX7_dropped_16 (by decide) ?_
    refine kcallV (As := [.int 0, .int 8]) (rest := []) (Wn := [mdO m0 m1 m2 m3 th sv kp ln ca lt fi sd hs, arC cI m1 1170 (enc (uA B 8 (B 0))), arC cI m2 60 T, arC cI m3 8 h]) X (c_X7_copies l D cI cZ cS cJ m0 m1 m2 m3 th sv kp ln ca lt fi sd hs B T h 0 8 (by omega) (by omega) (by omega)) (cwV 2 hts gX7_dropped_X7_copies rfl rfl rfl (by decide +kernel) ⟨Nat.le_of_ble_eq_true rfl, Nat.le_of_ble_eq_true rfl⟩) hK hP hD hS hA [0, 1, 2, 3] rfl (by decide +kernel) rfl rfl rfl 0 7 rfl rfl rfl hl.1 rfl (Nat.le_of_ble_eq_true rfl) dX7_dropped_18 ⟨Nat.le_of_ble_eq_true rfl, Nat.le_of_ble_eq_true rfl⟩ (fun H locs hP hD hS => ?_)
    refine lv_aload_n hx hb dX7_dropped_21 rfl (lv_at hl 0 rfl) ?_
    refine lv_sipush (v := 1040) hx hb dX7_dropped_22 (by decide) ?_
    refine lv_eqi (y := nI (130 * 8)) (rfl) ?_
    refine lv_iload_n hx hb dX7_dropped_25 rfl (lv_at hl 1 rfl) ?_
    refine lv_iconst (v := 1) hx hb dX7_dropped_26 (by decide) ?_
    refine lv_iconst (v := (-1)) hx hb dX7_dropped_27 (by decide) ?_
    refine kcallV (As := [.int (nI (130 * 8)), .int (nI b), .int 1, .int (-1)]) (rest := []) (Wn := [mdO m0 m1 m2 m3 th sv kp ln ca lt fi sd hs, arC cI m1 1170 (enc (uA (uA B 8 (B 0)) 8 (u2 ((uA B 8 (B 0)) 8) 1 b (((uA B 8 (B 0)) 8 1 b) + (-1))))), arC cI m2 60 T, arC cI m3 8 h]) X (c_X7_adds1 l D cI cZ cS cJ m0 m1 m2 m3 th sv kp ln ca lt fi sd hs (uA B 8 (B 0)) T h 8 b (-1) (by omega) (by omega)) (cwV 4 hts gX7_dropped_X7_adds rfl rfl rfl (by decide +kernel) ⟨Nat.le_of_ble_eq_true rfl, Nat.le_of_ble_eq_true rfl⟩) hK hP hD hS hA [0, 1, 2, 3] rfl (by decide +kernel) rfl rfl rfl 0 7 rfl rfl rfl hl.1 rfl (Nat.le_of_ble_eq_true rfl) dX7_dropped_28 ⟨Nat.le_of_ble_eq_true rfl, Nat.le_of_ble_eq_true rfl⟩ (fun H locs hP hD hS => ?_)
    obtain ⟨hP, hD⟩ := PD_cg hP hD 1 (enc (uA B 8 (dpF (B 0) b))) rfl (fun j _ => by rw [uA_s, uA_uA, dp_u]; exact enc_dp _ _ _ _ j) (wn := List.flatten [mdO m0 m1 m2 m3 th sv kp ln ca lt fi sd hs, arC cI m1 1170 (enc (uA B 8 (dpF (B 0) b))), arC cI m2 60 T, arC cI m3 8 h]) rfl
    refine lv_aload_n hx hb dX7_dropped_31 rfl (lv_at hl 0 rfl) ?_
    refine lv_sipush (v := 1040) hx hb dX7_dropped_32 (by decide) ?_
    refine lv_eqi (y := nI (130 * 8)) (rfl) ?_
    refine kcallV (As := [.int (nI (130 * 8))]) (rest := []) (Wn := [mdO m0 m1 m2 m3 th sv kp ln ca lt fi sd hs, arC cI m1 1170 (enc (uA B 8 (dpF (B 0) b))), arC cI m2 60 T, arC cI m3 8 (ht ((uA B 8 (dpF (B 0) b)) 8))]) X (c_X7_allHeights l D cI cZ cS cJ m0 m1 m2 m3 th sv kp ln ca lt fi sd hs (uA B 8 (dpF (B 0) b)) T h 8 (by omega) (by rw [uA_s]; exact GB_T hGd)) (cwV 1 hts gX7_dropped_X7_allHeights rfl rfl rfl (by decide +kernel) ⟨Nat.le_of_ble_eq_true rfl, Nat.le_of_ble_eq_true rfl⟩) hK hP hD hS hA [0, 1, 2, 3] rfl (by decide +kernel) rfl rfl rfl 0 7 rfl rfl rfl hl.1 rfl (Nat.le_of_ble_eq_true rfl) dX7_dropped_35 ⟨Nat.le_of_ble_eq_true rfl, Nat.le_of_ble_eq_true rfl⟩ (fun H locs hP hD hS => ?_)
    obtain ⟨hP, hD⟩ := PD_cg hP hD 3 (ht (dpF (B 0) b)) rfl (fun j _ => by rw [uA_s]) (wn := List.flatten [mdO m0 m1 m2 m3 th sv kp ln ca lt fi sd hs, arC cI m1 1170 (enc (uA B 8 (dpF (B 0) b))), arC cI m2 60 T, arC cI m3 8 (ht (dpF (B 0) b))]) rfl
    refine lv_eqi (y := hsm (dpF (B 0) b)) (by rw [uA_s]) ?_
    refine lv_istore_n (lv' := [(3, .int (hsm (dpF (B 0) b))), (0, .ref m0), (1, .int (nI b)), (2, .int 1)]) hx hb dX7_dropped_38 rfl hl (by decide) rfl (fun ls hl => ?_)
    refine lv_iload_n hx hb dX7_dropped_39 rfl (lv_at hl 3 rfl) ?_
    refine lv_iconst (v := 2) hx hb dX7_dropped_40 (by decide) ?_
    refine lv_icmp_ge (tgt := 59) hx hb dX7_dropped_41 (by decide) (fun h => absurd h (by decide)) (fun _ => ?_)
    refine lv_iload_n hx hb dX7_dropped_44 rfl (lv_at hl 3 rfl) ?_
    refine lv_if_ne (tgt := 57) hx hb dX7_dropped_45 (by decide) (fun _ => ?_) (fun h => absurd h (by decide))
    refine lv_iload_n hx hb dX7_dropped_57 rfl (lv_at hl 0 rfl) ?_
    refine hend ((uA B 8 (dpF (B 0) b)), ht (dpF (B 0) b)) _ _ _ _ _ (by exact fun a ha => uA_n (a := 8) (k := a) _ _ (by omega)) ?_ hP hD hS dX7_dropped_58
    first | exact drp0 c7 | exact drp1 c7
  · skip
    refine lv_sipush (v := (-1000)) hx hb dX7_dropped_10 (by decide) ?_
    refine hend (B, h) _ _ _ _ _ (by exact fun _ _ => rfl) ?_ hP hD hS dX7_dropped_13
    exact drp_z c7

set_option maxHeartbeats 4000000 in
set_option maxRecDepth 100000 in
theorem c_X7_dropped2 (l : Launch) (D : va_G) (cI cZ cS cJ : ClassId) (m0 : Nat) (m1 : Nat) (m2 : Nat) (m3 : Nat) (th : Int32) (sv : Int32) (kp : Int32) (ln : Int32) (ca : Int32) (lt : Int32) (fi : Int32) (sd : Int32) (hs : Int64) (B : Nat → Nat → Nat → Int32) (T : Nat → Int32) (h : Nat → Int32) (b : Nat) (hb8 : b < 8) (hG : GB (B 0)) (h6 : B 0 6 = ht (B 0)) : CE (U := (Nat → Nat → Nat → Int32) × (Nat → Int32)) l yX7_dropped wsX7_dropped ({ frames := 5, cells := 0, slots := 0, locals := 113 }) D (tyL cI cZ cS cJ) [.ref m0, .int (nI b), .int 2] (List.flatten [mdO m0 m1 m2 m3 th sv kp ln ca lt fi sd hs, arC cI m1 1170 (enc B), arC cI m2 60 T, arC cI m3 8 h]) (fun u => (∀ a, a < 8 → u.1 a = B a)) (fun u => some (.int (drpS (B 0) b 2))) (fun u => List.flatten [mdO m0 m1 m2 m3 th sv kp ln ca lt fi sd hs, arC cI m1 1170 (enc u.1), arC cI m2 60 T, arC cI m3 8 u.2]) 0 0 := by
  refine CE_int (cc := cX7_dropped) (maxL := 6) (rt := .int) (by decide) rfl (Nat.le_of_ble_eq_true rfl) (fun _ _ => rfl) ?_
  intro p e s m below meth c A ls Q X hK hP hD hS hA hl hend
  have X : CallFix p m c cX7_dropped 6 s ([.ref m0, .int (nI b), .int 2] : List Value).toArray wsX7_dropped RX7 := X
  obtain ⟨hx, hb, hml, hown, hts⟩ := id X
  have hl : lv_has ls 6 [(0, .ref m0), (1, .int (nI b)), (2, .int 2)] := hl
  refine lv_aload_n hx hb dX7_dropped_0 rfl (lv_at hl 0 rfl) ?_
  refine lv_iconst (v := 0) hx hb dX7_dropped_1 (by decide) ?_
  refine lv_eqi (y := nI (130 * 0)) (rfl) ?_
  refine lv_iload_n hx hb dX7_dropped_2 rfl (lv_at hl 1 rfl) ?_
  refine lv_iconst (v := 1) hx hb dX7_dropped_3 (by decide) ?_
  refine kcallV (As := [.int (nI (130 * 0)), .int (nI b), .int 1]) (rest := []) (Wn := [mdO m0 m1 m2 m3 th sv kp ln ca lt fi sd hs, arC cI m1 1170 (enc B), arC cI m2 60 T, arC cI m3 8 h]) X (c_X7_of1 l D cI cZ cS cJ m0 m1 m2 m3 th sv kp ln ca lt fi sd hs B T h 0 b (by omega) (by omega)) (cwV 3 hts gX7_dropped_X7_of rfl rfl rfl (by decide +kernel) ⟨Nat.le_of_ble_eq_true rfl, Nat.le_of_ble_eq_true rfl⟩) hK hP hD hS hA [0, 1, 2, 3] rfl (by decide +kernel) rfl rfl rfl 0 7 rfl rfl rfl hl.1 rfl (Nat.le_of_ble_eq_true rfl) dX7_dropped_4 ⟨Nat.le_of_ble_eq_true rfl, Nat.le_of_ble_eq_true rfl⟩ (fun H locs hP hD hS => ?_)
  refine lv_if_ne (tgt := 14) hx hb dX7_dropped_7 (by decide) (fun c7 => ?_) (fun c7 => ?_)
  · skip
    have hGd : GB (dpF (B 0) b) := GB_dp hG hb8 c7
    refine lv_aload_n hx hb dX7_dropped_14 rfl (lv_at hl 0 rfl) ?_
    refine lv_iconst (v := 0) hx hb dX7_dropped_15 (by decide) ?_
    refine lv_bipush (v := 8) hx hb dX7_dropped_16 (by decide) ?_
    refine kcallV (As := [.int 0, .int 8]) (rest := []) (Wn := [mdO m0 m1 m2 m3 th sv kp ln ca lt fi sd hs, arC cI m1 1170 (enc (uA B 8 (B 0))), arC cI m2 60 T, arC cI m3 8 h]) X (c_X7_copies l D cI cZ cS cJ m0 m1 m2 m3 th sv kp ln ca lt fi sd hs B T h 0 8 (by omega) (by omega) (by omega)) (cwV 2 hts gX7_dropped_X7_copies rfl rfl rfl (by decide +kernel) ⟨Nat.le_of_ble_eq_true rfl, Nat.le_of_ble_eq_true rfl⟩) hK hP hD hS hA [0, 1, 2, 3] rfl (by decide +kernel) rfl rfl rfl 0 7 rfl rfl rfl hl.1 rfl (Nat.le_of_ble_eq_true rfl) dX7_dropped_18 ⟨Nat.le_of_ble_eq_true rfl, Nat.le_of_ble_eq_true rfl⟩ (fun H locs hP hD hS => ?_)
    refine lv_aload_n hx hb dX7_dropped_21 rfl (lv_at hl 0 rfl) ?_
    refine lv_sipush (v := 1040) hx hb dX7_dropped_22 (by decide) ?_
    refine lv_eqi (y := nI (130 * 8)) (rfl) ?_
    refine lv_iload_n hx hb dX7_dropped_25 rfl (lv_at hl 1 rfl) ?_
    refine lv_iconst (v := 1) hx hb dX7_dropped_26 (by decide) ?_
    refine lv_iconst (v := (-1)) hx hb dX7_dropped_27 (by decide) ?_
    refine kcallV (As := [.int (nI (130 * 8)), .int (nI b), .int 1, .int (-1)]) (rest := []) (Wn := [mdO m0 m1 m2 m3 th sv kp ln ca lt fi sd hs, arC cI m1 1170 (enc (uA (uA B 8 (B 0)) 8 (u2 ((uA B 8 (B 0)) 8) 1 b (((uA B 8 (B 0)) 8 1 b) + (-1))))), arC cI m2 60 T, arC cI m3 8 h]) X (c_X7_adds1 l D cI cZ cS cJ m0 m1 m2 m3 th sv kp ln ca lt fi sd hs (uA B 8 (B 0)) T h 8 b (-1) (by omega) (by omega)) (cwV 4 hts gX7_dropped_X7_adds rfl rfl rfl (by decide +kernel) ⟨Nat.le_of_ble_eq_true rfl, Nat.le_of_ble_eq_true rfl⟩) hK hP hD hS hA [0, 1, 2, 3] rfl (by decide +kernel) rfl rfl rfl 0 7 rfl rfl rfl hl.1 rfl (Nat.le_of_ble_eq_true rfl) dX7_dropped_28 ⟨Nat.le_of_ble_eq_true rfl, Nat.le_of_ble_eq_true rfl⟩ (fun H locs hP hD hS => ?_)
    obtain ⟨hP, hD⟩ := PD_cg hP hD 1 (enc (uA B 8 (dpF (B 0) b))) rfl (fun j _ => by rw [uA_s, uA_uA, dp_u]; exact enc_dp _ _ _ _ j) (wn := List.flatten [mdO m0 m1 m2 m3 th sv kp ln ca lt fi sd hs, arC cI m1 1170 (enc (uA B 8 (dpF (B 0) b))), arC cI m2 60 T, arC cI m3 8 h]) rfl
    refine lv_aload_n hx hb dX7_dropped_31 rfl (lv_at hl 0 rfl) ?_
    refine lv_sipush (v := 1040) hx hb dX7_dropped_32 (by decide) ?_
    refine lv_eqi (y := nI (130 * 8)) (rfl) ?_
    refine kcallV (As := [.int (nI (130 * 8))]) (rest := []) (Wn := [mdO m0 m1 m2 m3 th sv kp ln ca lt fi sd hs, arC cI m1 1170 (enc (uA B 8 (dpF (B 0) b))), arC cI m2 60 T, arC cI m3 8 (ht ((uA B 8 (dpF (B 0) b)) 8))]) X (c_X7_allHeights l D cI cZ cS cJ m0 m1 m2 m3 th sv kp ln ca lt fi sd hs (uA B 8 (dpF (B 0) b)) T h 8 (by omega) (by rw [uA_s]; exact GB_T hGd)) (cwV 1 hts gX7_dropped_X7_allHeights rfl rfl rfl (by decide +kernel) ⟨Nat.le_of_ble_eq_true rfl, Nat.le_of_ble_eq_true rfl⟩) hK hP hD hS hA [0, 1, 2, 3] rfl (by decide +kernel) rfl rfl rfl 0 7 rfl rfl rfl hl.1 rfl (Nat.le_of_ble_eq_true rfl) dX7_dropped_35 ⟨Nat.le_of_ble_eq_true rfl, Nat.le_of_ble_eq_true rfl⟩ (fun H locs hP hD hS => ?_)
    obtain ⟨hP, hD⟩ := PD_cg hP hD 3 (ht (dpF (B 0) b)) rfl (fun j _ => by rw [uA_s]) (wn := List.flatten [mdO m0 m1 m2 m3 th sv kp ln ca lt fi sd hs, arC cI m1 1170 (enc (uA B 8 (dpF (B 0) b))), arC cI m2 60 T, arC cI m3 8 (ht (dpF (B 0) b))]) rfl
    refine lv_eqi (y := hsm (dpF (B 0) b)) (by rw [uA_s]) ?_
    refine lv_istore_n (lv' := [(3, .int (hsm (dpF (B 0) b))), (0, .ref m0), (1, .int (nI b)), (2, .int 2)]) hx hb dX7_dropped_38 rfl hl (by decide) rfl (fun ls hl => ?_)
    refine lv_iload_n hx hb dX7_dropped_39 rfl (lv_at hl 3 rfl) ?_
    refine lv_iconst (v := 2) hx hb dX7_dropped_40 (by decide) ?_
    refine lv_icmp_ge (tgt := 59) hx hb dX7_dropped_41 (by decide) (fun _ => ?_) (fun h => absurd (by decide) h)
    refine lv_iconst (v := 0) hx hb dX7_dropped_59 (by decide) ?_
    refine lv_istore (lv' := [(4, .int 0), (3, .int (hsm (dpF (B 0) b))), (0, .ref m0), (1, .int (nI b)), (2, .int 2)]) hx hb dX7_dropped_60 hl (by decide) rfl (fun ls hl => ?_)
    refine lv_iconst (v := 0) hx hb dX7_dropped_62 (by decide) ?_
    refine lv_istore (lv' := [(5, .int 0), (4, .int 0), (3, .int (hsm (dpF (B 0) b))), (0, .ref m0), (1, .int (nI b)), (2, .int 2)]) hx hb dX7_dropped_63 hl (by decide) rfl (fun ls hl => ?_)
    have lp_65 : ∀ (nn : Nat) (i : Nat), True → (i ≤ 7) → 7 - i < nn → ∀ (H : Heap) (locs : List Loc) (ls : Array Slot), va_P D vwCl (List.flatten [mdO m0 m1 m2 m3 th sv kp ln ca lt fi sd hs, arC cI m1 1170 (enc (uA B 8 (dpF (B 0) b))), arC cI m2 60 T, arC cI m3 8 (ht (dpF (B 0) b))]) H → va_D A (List.flatten [mdO m0 m1 m2 m3 th sv kp ln ca lt fi sd hs, arC cI m1 1170 (enc (uA B 8 (dpF (B 0) b))), arC cI m2 60 T, arC cI m3 8 (ht (dpF (B 0) b))]) → va_S A s.heap H locs → lv_has ls 6 [(0, .ref m0), (1, .int (nI b)), (2, .int 2), (3, .int (hsm (dpF (B 0) b))), (4, .int (sm (fun j => b1 (dpF (B 0) b 5 j < pulC (dpF (B 0) b) j)) i)), (5, .int (nI i))] → W p l e ({ frames := 5, cells := 0, slots := 0, locals := 113 } : Room) s m ([.ref m0, .int (nI b), .int 2] : List Value).toArray below meth c H locs 0 0 Q (F0 m 65 ls []) := by
      intro nn
      induction nn with
      | zero => intro i _ hi hmz; exact absurd hmz (Nat.not_lt_zero _)
      | succ nn ih =>
        intro i _ hi hms H locs ls hP hD hS hl
        refine lv_iload hx hb dX7_dropped_65 (lv_at hl 5 rfl) ?_
        refine lv_bipush (v := 7) hx hb dX7_dropped_67 (by decide) ?_
        refine n_ge (i := i) (j := 7) (tgt := 109) hx hb (by omega) (by omega) dX7_dropped_69 (by decide) (fun c69 => ?_) (fun c69 => ?_)
        · skip
          refine lv_iload hx hb dX7_dropped_109 (lv_at hl 4 rfl) ?_
          refine hend ((uA B 8 (dpF (B 0) b)), ht (dpF (B 0) b)) _ _ _ _ _ (by exact fun a ha => uA_n (a := 8) (k := a) _ _ (by omega)) ?_ hP hD hS dX7_dropped_111
          rw [show i = 7 by omega]; exact drp2 c7
        · skip
          refine lv_iload hx hb dX7_dropped_72 (lv_at hl 4 rfl) ?_
          refine lv_aload_n hx hb dX7_dropped_74 rfl (lv_at hl 0 rfl) ?_
          refine lv_sipush (v := 1040) hx hb dX7_dropped_75 (by decide) ?_
          refine lv_eqi (y := nI (130 * 8)) (rfl) ?_
          refine lv_iload hx hb dX7_dropped_78 (lv_at hl 5 rfl) ?_
          refine kcallV (As := [.int (nI (130 * 8)), .int (nI i)]) (rest := [.int (sm (fun j => b1 (dpF (B 0) b 5 j < pulC (dpF (B 0) b) j)) i)]) (Wn := [mdO m0 m1 m2 m3 th sv kp ln ca lt fi sd hs, arC cI m1 1170 (enc (uA B 8 (dpF (B 0) b))), arC cI m2 60 T, arC cI m3 8 (ht (dpF (B 0) b))]) X (c_X7_pull l D cI cZ cS cJ m0 m1 m2 m3 th sv kp ln ca lt fi sd hs (uA B 8 (dpF (B 0) b)) T (ht (dpF (B 0) b)) 8 i (by omega) (by omega) (by rw [uA_s]; exact GB_T hGd)) (cwV 2 hts gX7_dropped_X7_pull rfl rfl rfl (by decide +kernel) ⟨Nat.le_of_ble_eq_true rfl, Nat.le_of_ble_eq_true rfl⟩) hK hP hD hS hA [0, 1, 2, 3] rfl (by decide +kernel) rfl rfl rfl 0 7 rfl rfl rfl hl.1 rfl (Nat.le_of_ble_eq_true rfl) dX7_dropped_80 ⟨Nat.le_of_ble_eq_true rfl, Nat.le_of_ble_eq_true rfl⟩ (fun H locs hP hD hS => ?_)
          refine lv_eqi (y := pulC (dpF (B 0) b) i) (by rw [uA_s]; exact pul_dp hGd (by omega)) ?_
          refine lv_aload_n hx hb dX7_dropped_83 rfl (lv_at hl 0 rfl) ?_
          refine lv_sipush (v := 1040) hx hb dX7_dropped_84 (by decide) ?_
          refine lv_eqi (y := nI (130 * 8)) (rfl) ?_
          refine lv_iload hx hb dX7_dropped_87 (lv_at hl 5 rfl) ?_
          refine kcallV (As := [.int (nI (130 * 8)), .int (nI i)]) (rest := [.int (pulC (dpF (B 0) b) i), .int (sm (fun j => b1 (dpF (B 0) b 5 j < pulC (dpF (B 0) b) j)) i)]) (Wn := [mdO m0 m1 m2 m3 th sv kp ln ca lt fi sd hs, arC cI m1 1170 (enc (uA B 8 (dpF (B 0) b))), arC cI m2 60 T, arC cI m3 8 (ht (dpF (B 0) b))]) X (c_X7_bears l D cI cZ cS cJ m0 m1 m2 m3 th sv kp ln ca lt fi sd hs (uA B 8 (dpF (B 0) b)) T (ht (dpF (B 0) b)) 8 i (by omega) (by omega)) (cwV 2 hts gX7_dropped_X7_bears rfl rfl rfl (by decide +kernel) ⟨Nat.le_of_ble_eq_true rfl, Nat.le_of_ble_eq_true rfl⟩) hK hP hD hS hA [0, 1, 2, 3] rfl (by decide +kernel) rfl rfl rfl 0 7 rfl rfl rfl hl.1 rfl (Nat.le_of_ble_eq_true rfl) dX7_dropped_89 ⟨Nat.le_of_ble_eq_true rfl, Nat.le_of_ble_eq_true rfl⟩ (fun H locs hP hD hS => ?_)
          refine lv_eqi (y := (dpF (B 0) b) 5 i) (by rw [uA_s]) ?_
          refine lv_icmp_le (tgt := 99) hx hb dX7_dropped_92 (by decide) (fun c92 => ?_) (fun c92 => ?_)
          · skip
            refine lv_iconst (v := 0) hx hb dX7_dropped_99 (by decide) ?_
            refine lv_iadd hx hb dX7_dropped_100 ?_
            refine lv_eqi (y := sm (fun j => b1 (dpF (B 0) b 5 j < pulC (dpF (B 0) b) j)) (i + 1)) (by first | exact sm_p (p := fun j => dpF (B 0) b 5 j < pulC (dpF (B 0) b) j) (lt_yes c92) | exact sm_z (p := fun j => dpF (B 0) b 5 j < pulC (dpF (B 0) b) j) (lt_no c92)) ?_
            refine lv_istore (lv' := [(4, .int (sm (fun j => b1 (dpF (B 0) b 5 j < pulC (dpF (B 0) b) j)) (i + 1))), (0, .ref m0), (1, .int (nI b)), (2, .int 2), (3, .int (hsm (dpF (B 0) b))), (5, .int (nI i))]) hx hb dX7_dropped_101 hl (by decide) rfl (fun ls hl => ?_)
            refine lv_iinc (v := nI (i + 1)) (lv' := [(5, .int (nI (i + 1))), (4, .int (sm (fun j => b1 (dpF (B 0) b 5 j < pulC (dpF (B 0) b) j)) (i + 1))), (0, .ref m0), (1, .int (nI b)), (2, .int 2), (3, .int (hsm (dpF (B 0) b)))]) hx hb dX7_dropped_103 hl (k := 5) rfl (nI_add _ _) (by decide) rfl (fun ls hl => ?_)
            refine lv_goto (tgt := 65) hx hb dX7_dropped_106 (by decide) ?_
            exact ih  (i + 1) trivial (by omega) (by omega) _ _ _ hP hD hS (lv_sub hl [2, 3, 4, 5, 1, 0] rfl)
          · skip
            refine lv_iconst (v := 1) hx hb dX7_dropped_95 (by decide) ?_
            refine lv_goto (tgt := 100) hx hb dX7_dropped_96 (by decide) ?_
            refine lv_iadd hx hb dX7_dropped_100 ?_
            refine lv_eqi (y := sm (fun j => b1 (dpF (B 0) b 5 j < pulC (dpF (B 0) b) j)) (i + 1)) (by first | exact sm_p (p := fun j => dpF (B 0) b 5 j < pulC (dpF (B 0) b) j) (lt_yes c92) | exact sm_z (p := fun j => dpF (B 0) b 5 j < pulC (dpF (B 0) b) j) (lt_no c92)) ?_
            refine lv_istore (lv' := [(4, .int (sm (fun j => b1 (dpF (B 0) b 5 j < pulC (dpF (B 0) b) j)) (i + 1))), (0, .ref m0), (1, .int (nI b)), (2, .int 2), (3, .int (hsm (dpF (B 0) b))), (5, .int (nI i))]) hx hb dX7_dropped_101 hl (by decide) rfl (fun ls hl => ?_)
            refine lv_iinc (v := nI (i + 1)) (lv' := [(5, .int (nI (i + 1))), (4, .int (sm (fun j => b1 (dpF (B 0) b 5 j < pulC (dpF (B 0) b) j)) (i + 1))), (0, .ref m0), (1, .int (nI b)), (2, .int 2), (3, .int (hsm (dpF (B 0) b)))]) hx hb dX7_dropped_103 hl (k := 5) rfl (nI_add _ _) (by decide) rfl (fun ls hl => ?_)
            refine lv_goto (tgt := 65) hx hb dX7_dropped_106 (by decide) ?_
            exact ih  (i + 1) trivial (by omega) (by omega) _ _ _ hP hD hS (lv_sub hl [2, 3, 4, 5, 1, 0] rfl)
    exact lp_65 (7 - 0 + 1) 0 trivial (by omega) (Nat.lt_succ_self _) _ _ _ hP hD hS (lv_sub hl [3, 4, 5, 2, 1, 0] rfl)
  · skip
    refine lv_sipush (v := (-1000)) hx hb dX7_dropped_10 (by decide) ?_
    refine hend (B, h) _ _ _ _ _ (by exact fun _ _ => rfl) ?_ hP hD hS dX7_dropped_13
    exact drp_z c7

set_option maxHeartbeats 4000000 in
set_option maxRecDepth 100000 in
theorem c_X7_dropped (l : Launch) (D : va_G) (cI cZ cS cJ : ClassId) (m0 : Nat) (m1 : Nat) (m2 : Nat) (m3 : Nat) (th : Int32) (sv : Int32) (kp : Int32) (ln : Int32) (ca : Int32) (lt : Int32) (fi : Int32) (sd : Int32) (hs : Int64) (B : Nat → Nat → Nat → Int32) (T : Nat → Int32) (h : Nat → Int32) (b : Nat) (w : Nat) (hb8 : b < 8) (hG : GB (B 0)) (h6 : B 0 6 = ht (B 0)) (hw : w < 3) : CE (U := (Nat → Nat → Nat → Int32) × (Nat → Int32)) l yX7_dropped wsX7_dropped ({ frames := 5, cells := 0, slots := 0, locals := 113 }) D (tyL cI cZ cS cJ) [.ref m0, .int (nI b), .int (nI w)] (List.flatten [mdO m0 m1 m2 m3 th sv kp ln ca lt fi sd hs, arC cI m1 1170 (enc B), arC cI m2 60 T, arC cI m3 8 h]) (fun u => (∀ a, a < 8 → u.1 a = B a)) (fun u => some (.int (drpS (B 0) b w))) (fun u => List.flatten [mdO m0 m1 m2 m3 th sv kp ln ca lt fi sd hs, arC cI m1 1170 (enc u.1), arC cI m2 60 T, arC cI m3 8 u.2]) 0 0 := by
  rcases (show w = 0 ∨ w = 1 ∨ w = 2 by omega) with rfl | rfl | rfl
  · exact c_X7_dropped0 l D cI cZ cS cJ m0 m1 m2 m3 th sv kp ln ca lt fi sd hs B T h b hb8 hG h6
  · exact c_X7_dropped1 l D cI cZ cS cJ m0 m1 m2 m3 th sv kp ln ca lt fi sd hs B T h b hb8 hG h6
  · exact c_X7_dropped2 l D cI cZ cS cJ m0 m1 m2 m3 th sv kp ln ca lt fi sd hs B T h b hb8 hG h6

set_option maxHeartbeats 4000000 in
set_option maxRecDepth 100000 in
theorem c_X7_ifDropped (l : Launch) (D : va_G) (cI cZ cS cJ : ClassId) (m0 : Nat) (m1 : Nat) (m2 : Nat) (m3 : Nat) (th : Int32) (sv : Int32) (kp : Int32) (ln : Int32) (ca : Int32) (lt : Int32) (fi : Int32) (sd : Int32) (hs : Int64) (B : Nat → Nat → Nat → Int32) (T : Nat → Int32) (h : Nat → Int32) (x : Int32) (y : Int32) (hG : GB (B 0)) (h6 : B 0 6 = ht (B 0)) : CE (U := (Int32) × (Nat → Nat → Nat → Int32) × (Nat → Int32) × (Int32)) l yX7_ifDropped wsX7_ifDropped ({ frames := 6, cells := 0, slots := 0, locals := 138 }) D (tyL cI cZ cS cJ) [.ref m0, .int x, .int y] (List.flatten [mdO m0 m1 m2 m3 th sv kp ln ca lt fi sd hs, arC cI m1 1170 (enc B), arC cI m2 60 T, arC cI m3 8 h]) (fun u => (Lk (k2 (isB x) (inR y 0 2)) u.1 (drpS (B 0) x.toNatClampNeg y.toNatClampNeg) u.2.2.2) ∧ (∀ a, a < 8 → u.2.1 a = B a)) (fun u => some (.int u.2.2.2)) (fun u => List.flatten [mdO m0 m1 m2 m3 u.1 sv kp ln ca lt fi sd hs, arC cI m1 1170 (enc u.2.1), arC cI m2 60 T, arC cI m3 8 u.2.2.1]) 0 0 := by
  refine CE_int (cc := cX7_ifDropped) (maxL := 3) (rt := .int) (by decide) rfl (Nat.le_of_ble_eq_true rfl) (fun _ _ => rfl) ?_
  intro p e s m below meth c A ls Q X hK hP hD hS hA hl hend
  have X : CallFix p m c cX7_ifDropped 3 s ([.ref m0, .int x, .int y] : List Value).toArray wsX7_ifDropped RX7 := X
  obtain ⟨hx, hb, hml, hown, hts⟩ := id X
  have hl : lv_has ls 3 [(0, .ref m0), (1, .int x), (2, .int y)] := hl
  refine lv_aload_n hx hb dX7_ifDropped_0 rfl (lv_at hl 0 rfl) ?_
  refine lv_iload_n hx hb dX7_ifDropped_1 rfl (lv_at hl 1 rfl) ?_
  refine kcallS (As := [.int x]) (rest := [.ref m0]) (Wn := [mdO m0 m1 m2 m3 th sv kp ln ca lt fi sd hs, arC cI m1 1170 (enc B), arC cI m2 60 T, arC cI m3 8 h]) X (c_X7_isBalloon l D cI cZ cS cJ x) (va_cwS 1 hts gX7_ifDropped_X7_isBalloon rfl rfl rfl (by decide +kernel) ⟨Nat.le_of_ble_eq_true rfl, Nat.le_of_ble_eq_true rfl⟩) hK hP hD hS hA [] rfl (by decide +kernel) rfl rfl rfl rfl hl.1 rfl (Nat.le_of_ble_eq_true rfl) dX7_ifDropped_2 ⟨Nat.le_of_ble_eq_true rfl, Nat.le_of_ble_eq_true rfl⟩ (fun H locs hP hD hS => ?_)
  refine lv_if_ne (tgt := 12) hx hb dX7_ifDropped_5 (by decide) (fun c5 => ?_) (fun c5 => ?_)
  · skip
    obtain ⟨b, hb8, rfl⟩ := bal_of (b1_t c5)
    have hP : va_P D vwCl (List.flatten [mdO m0 m1 m2 m3 th sv kp ln ca lt fi sd hs, arC cI m1 1170 (enc B), arC cI m2 60 T, arC cI m3 8 h]) _ := hP
    have hD : va_D A (List.flatten [mdO m0 m1 m2 m3 th sv kp ln ca lt fi sd hs, arC cI m1 1170 (enc B), arC cI m2 60 T, arC cI m3 8 h]) := hD
    have hl : lv_has ls 3 [(0, .ref m0), (1, .int (nI b)), (2, .int y)] := hl
    have ec : (nI b).toNatClampNeg = b := nI_clamp (by omega)
    refine lv_iload_n hx hb dX7_ifDropped_12 rfl (lv_at hl 2 rfl) ?_
    refine lv_iconst (v := 0) hx hb dX7_ifDropped_13 (by decide) ?_
    refine lv_iconst (v := 2) hx hb dX7_ifDropped_14 (by decide) ?_
    refine kcallS (As := [.int y, .int 0, .int 2]) (rest := [.ref m0]) (Wn := [mdO m0 m1 m2 m3 th sv kp ln ca lt fi sd hs, arC cI m1 1170 (enc B), arC cI m2 60 T, arC cI m3 8 h]) X (c_X7_in l D cI cZ cS cJ y 0 2) (va_cwS 3 hts gX7_ifDropped_X7_in rfl rfl rfl (by decide +kernel) ⟨Nat.le_of_ble_eq_true rfl, Nat.le_of_ble_eq_true rfl⟩) hK hP hD hS hA [] rfl (by decide +kernel) rfl rfl rfl rfl hl.1 rfl (Nat.le_of_ble_eq_true rfl) dX7_ifDropped_15 ⟨Nat.le_of_ble_eq_true rfl, Nat.le_of_ble_eq_true rfl⟩ (fun H locs hP hD hS => ?_)
    refine lv_if_ne (tgt := 25) hx hb dX7_ifDropped_18 (by decide) (fun c18 => ?_) (fun c18 => ?_)
    · skip
      obtain ⟨w, hw, rfl⟩ := num_of (n := 2) (by decide) (b1_t c18)
      have hP : va_P D vwCl (List.flatten [mdO m0 m1 m2 m3 th sv kp ln ca lt fi sd hs, arC cI m1 1170 (enc B), arC cI m2 60 T, arC cI m3 8 h]) _ := hP
      have hD : va_D A (List.flatten [mdO m0 m1 m2 m3 th sv kp ln ca lt fi sd hs, arC cI m1 1170 (enc B), arC cI m2 60 T, arC cI m3 8 h]) := hD
      have hl : lv_has ls 3 [(0, .ref m0), (1, .int (nI b)), (2, .int (nI w))] := hl
      have ew : (nI w).toNatClampNeg = w := nI_clamp (by omega)
      refine lv_iconst (v := 0) hx hb dX7_ifDropped_25 (by decide) ?_
      refine kcallV (As := [.int 0]) (rest := []) (Wn := [mdO m0 m1 m2 m3 0 sv kp ln ca lt fi sd hs, arC cI m1 1170 (enc B), arC cI m2 60 T, arC cI m3 8 h]) X (c_X7_holds l D cI cZ cS cJ m0 m1 m2 m3 th sv kp ln ca lt fi sd hs B T h 0) (cwV 1 hts gX7_ifDropped_X7_holds rfl rfl rfl (by decide +kernel) ⟨Nat.le_of_ble_eq_true rfl, Nat.le_of_ble_eq_true rfl⟩) hK hP hD hS hA [0, 1, 2, 3] rfl (by decide +kernel) rfl rfl rfl 0 7 rfl rfl rfl hl.1 rfl (Nat.le_of_ble_eq_true rfl) dX7_ifDropped_26 ⟨Nat.le_of_ble_eq_true rfl, Nat.le_of_ble_eq_true rfl⟩ (fun H locs hP hD hS => ?_)
      refine lv_eqi (y := 1) (by decide) ?_
      refine lv_if_eq (tgt := 41) hx hb dX7_ifDropped_29 (by decide) (fun h => absurd h (by decide)) (fun _ => ?_)
      refine lv_aload_n hx hb dX7_ifDropped_32 rfl (lv_at hl 0 rfl) ?_
      refine lv_iload_n hx hb dX7_ifDropped_33 rfl (lv_at hl 1 rfl) ?_
      refine lv_iload_n hx hb dX7_ifDropped_34 rfl (lv_at hl 2 rfl) ?_
      refine kcallVE (As := [.int (nI b), .int (nI w)]) (rest := []) (Wn := fun u => [mdO m0 m1 m2 m3 0 sv kp ln ca lt fi sd hs, arC cI m1 1170 (enc u.1), arC cI m2 60 T, arC cI m3 8 u.2]) X (c_X7_dropped l D cI cZ cS cJ m0 m1 m2 m3 0 sv kp ln ca lt fi sd hs B T h b w (by omega) hG h6 (by omega)) (cwV 2 hts gX7_ifDropped_X7_dropped rfl rfl rfl (by decide +kernel) ⟨Nat.le_of_ble_eq_true rfl, Nat.le_of_ble_eq_true rfl⟩) hK hP hD hS hA [0, 1, 2, 3] rfl (by decide +kernel) (fun _ => rfl) (fun _ => rfl) (fun _ => rfl) 0 7 rfl rfl rfl hl.1 rfl (Nat.le_of_ble_eq_true rfl) dX7_ifDropped_35 ⟨Nat.le_of_ble_eq_true rfl, Nat.le_of_ble_eq_true rfl⟩ (fun uu H locs hu hP hD hS => ?_)
      obtain ⟨B9_1, h9_1⟩ := uu
      have h8_1 := hu
      have hP : va_P D vwCl (List.flatten [mdO m0 m1 m2 m3 0 sv kp ln ca lt fi sd hs, arC cI m1 1170 (enc B9_1), arC cI m2 60 T, arC cI m3 8 h9_1]) _ := hP
      have hD : va_D A (List.flatten [mdO m0 m1 m2 m3 0 sv kp ln ca lt fi sd hs, arC cI m1 1170 (enc B9_1), arC cI m2 60 T, arC cI m3 8 h9_1]) := hD
      refine lv_goto (tgt := 42) hx hb dX7_ifDropped_38 (by decide) ?_
      refine hend (0, B9_1, h9_1, drpS (B 0) b w) _ _ _ _ _ (by exact ⟨by first | exact Lk_bad (k2_1 (b1_z c5)) nz1 | (rw [ec]; first | exact Lk_bad (k2_2 (b1_t c5) (b1_z c18)) nz2 | (rw [ew]; exact Lk_ok (k2_0 (b1_t c5) (b1_t c18)) rfl)), by first | exact fun _ _ => rfl | assumption⟩) ?_ hP hD hS dX7_ifDropped_42
      exact rfl
    · skip
      refine lv_iconst (v := 2) hx hb dX7_ifDropped_21 (by decide) ?_
      refine lv_goto (tgt := 26) hx hb dX7_ifDropped_22 (by decide) ?_
      refine kcallV (As := [.int 2]) (rest := []) (Wn := [mdO m0 m1 m2 m3 2 sv kp ln ca lt fi sd hs, arC cI m1 1170 (enc B), arC cI m2 60 T, arC cI m3 8 h]) X (c_X7_holds l D cI cZ cS cJ m0 m1 m2 m3 th sv kp ln ca lt fi sd hs B T h 2) (cwV 1 hts gX7_ifDropped_X7_holds rfl rfl rfl (by decide +kernel) ⟨Nat.le_of_ble_eq_true rfl, Nat.le_of_ble_eq_true rfl⟩) hK hP hD hS hA [0, 1, 2, 3] rfl (by decide +kernel) rfl rfl rfl 0 7 rfl rfl rfl hl.1 rfl (Nat.le_of_ble_eq_true rfl) dX7_ifDropped_26 ⟨Nat.le_of_ble_eq_true rfl, Nat.le_of_ble_eq_true rfl⟩ (fun H locs hP hD hS => ?_)
      refine lv_eqi (y := 0) (by decide) ?_
      refine lv_if_eq (tgt := 41) hx hb dX7_ifDropped_29 (by decide) (fun _ => ?_) (fun h => absurd (by decide) h)
      refine lv_iconst (v := 0) hx hb dX7_ifDropped_41 (by decide) ?_
      refine hend (2, B, h, 0) _ _ _ _ _ (by exact ⟨by first | exact Lk_bad (k2_1 (b1_z c5)) nz1 | (rw [ec]; first | exact Lk_bad (k2_2 (b1_t c5) (b1_z c18)) nz2 | (rw [ew]; exact Lk_ok (k2_0 (b1_t c5) (b1_t c18)) rfl)), by first | exact fun _ _ => rfl | assumption⟩) ?_ hP hD hS dX7_ifDropped_42
      exact rfl
  · skip
    refine lv_iconst (v := 1) hx hb dX7_ifDropped_8 (by decide) ?_
    refine lv_goto (tgt := 26) hx hb dX7_ifDropped_9 (by decide) ?_
    refine kcallV (As := [.int 1]) (rest := []) (Wn := [mdO m0 m1 m2 m3 1 sv kp ln ca lt fi sd hs, arC cI m1 1170 (enc B), arC cI m2 60 T, arC cI m3 8 h]) X (c_X7_holds l D cI cZ cS cJ m0 m1 m2 m3 th sv kp ln ca lt fi sd hs B T h 1) (cwV 1 hts gX7_ifDropped_X7_holds rfl rfl rfl (by decide +kernel) ⟨Nat.le_of_ble_eq_true rfl, Nat.le_of_ble_eq_true rfl⟩) hK hP hD hS hA [0, 1, 2, 3] rfl (by decide +kernel) rfl rfl rfl 0 7 rfl rfl rfl hl.1 rfl (Nat.le_of_ble_eq_true rfl) dX7_ifDropped_26 ⟨Nat.le_of_ble_eq_true rfl, Nat.le_of_ble_eq_true rfl⟩ (fun H locs hP hD hS => ?_)
    refine lv_eqi (y := 0) (by decide) ?_
    refine lv_if_eq (tgt := 41) hx hb dX7_ifDropped_29 (by decide) (fun _ => ?_) (fun h => absurd (by decide) h)
    refine lv_iconst (v := 0) hx hb dX7_ifDropped_41 (by decide) ?_
    refine hend (1, B, h, 0) _ _ _ _ _ (by exact ⟨by first | exact Lk_bad (k2_1 (b1_z c5)) nz1 | (rw [ec]; first | exact Lk_bad (k2_2 (b1_t c5) (b1_z c18)) nz2 | (rw [ew]; exact Lk_ok (k2_0 (b1_t c5) (b1_t c18)) rfl)), by first | exact fun _ _ => rfl | assumption⟩) ?_ hP hD hS dX7_ifDropped_42
    exact rfl

set_option maxHeartbeats 4000000 in
set_option maxRecDepth 100000 in
theorem c_X7_lands (l : Launch) (D : va_G) (cI cZ cS cJ : ClassId) (m0 : Nat) (m1 : Nat) (m2 : Nat) (m3 : Nat) (th : Int32) (sv : Int32) (kp : Int32) (ln : Int32) (ca : Int32) (lt : Int32) (fi : Int32) (sd : Int32) (hs : Int64) (B : Nat → Nat → Nat → Int32) (T : Nat → Int32) (h : Nat → Int32) (b : Nat) (hb8 : b < 8) (hG : GB (B 0)) (h6 : B 0 6 = ht (B 0)) : CE (U := (Nat → Nat → Nat → Int32) × (Nat → Int32)) l yX7_lands wsX7_lands ({ frames := 6, cells := 0, slots := 0, locals := 143 }) D (tyL cI cZ cS cJ) [.ref m0, .int (nI b)] (List.flatten [mdO m0 m1 m2 m3 th sv kp ln ca lt fi sd hs, arC cI m1 1170 (enc B), arC cI m2 60 T, arC cI m3 8 h]) (fun u => (∀ a, a < 8 → u.1 a = B a)) (fun u => some (.int (Lnd (B 0) 200 b))) (fun u => List.flatten [mdO m0 m1 m2 m3 th sv kp ln ca lt fi sd hs, arC cI m1 1170 (enc u.1), arC cI m2 60 T, arC cI m3 8 u.2]) 0 0 := by
  refine CE_int (cc := cX7_lands) (maxL := 3) (rt := .int) (by decide) rfl (Nat.le_of_ble_eq_true rfl) (fun _ _ => rfl) ?_
  intro p e s m below meth c A ls Q X hK hP hD hS hA hl hend
  have X : CallFix p m c cX7_lands 3 s ([.ref m0, .int (nI b)] : List Value).toArray wsX7_lands RX7 := X
  obtain ⟨hx, hb, hml, hown, hts⟩ := id X
  have hl : lv_has ls 3 [(0, .ref m0), (1, .int (nI b))] := hl
  have hinX7 : ∀ w ∈ u_ws RX7 TX7 12, w ∈ wsX7_lands := by decide +kernel
  refine lv_aload_n hx hb dX7_lands_0 rfl (lv_at hl 0 rfl) ?_
  refine lv_iconst (v := 0) hx hb dX7_lands_1 (by decide) ?_
  refine lv_bipush (v := 8) hx hb dX7_lands_2 (by decide) ?_
  refine kcallV (As := [.int 0, .int 8]) (rest := []) (Wn := [mdO m0 m1 m2 m3 th sv kp ln ca lt fi sd hs, arC cI m1 1170 (enc (uA B 8 (B 0))), arC cI m2 60 T, arC cI m3 8 h]) X (c_X7_copies l D cI cZ cS cJ m0 m1 m2 m3 th sv kp ln ca lt fi sd hs B T h 0 8 (by omega) (by omega) (by omega)) (cwV 2 hts gX7_lands_X7_copies rfl rfl rfl (by decide +kernel) ⟨Nat.le_of_ble_eq_true rfl, Nat.le_of_ble_eq_true rfl⟩) hK hP hD hS hA [0, 1, 2, 3] rfl (by decide +kernel) rfl rfl rfl 0 7 rfl rfl rfl hl.1 rfl (Nat.le_of_ble_eq_true rfl) dX7_lands_4 ⟨Nat.le_of_ble_eq_true rfl, Nat.le_of_ble_eq_true rfl⟩ (fun H locs hP hD hS => ?_)
  refine lv_iconst (v := 0) hx hb dX7_lands_7 (by decide) ?_
  refine lv_istore_n (lv' := [(2, .int 0), (0, .ref m0), (1, .int (nI b))]) hx hb dX7_lands_8 rfl hl (by decide) rfl (fun ls hl => ?_)
  have lp_9 : ∀ (nn : Nat) (i : Nat) (hh : Nat → Int32), True → (i ≤ 201) → (∀ j, j < i → ¬ itf (B 0) j 6 b = 0) → 201 - i < nn → ∀ (H : Heap) (locs : List Loc) (ls : Array Slot), va_P D vwCl (List.flatten [mdO m0 m1 m2 m3 th sv kp ln ca lt fi sd hs, arC cI m1 1170 (enc (uA B 8 (hrs (B 0) i))), arC cI m2 60 T, arC cI m3 8 hh]) H → va_D A (List.flatten [mdO m0 m1 m2 m3 th sv kp ln ca lt fi sd hs, arC cI m1 1170 (enc (uA B 8 (hrs (B 0) i))), arC cI m2 60 T, arC cI m3 8 hh]) → va_S A s.heap H locs → lv_has ls 3 [(0, .ref m0), (1, .int (nI b)), (2, .int (nI i))] → W p l e ({ frames := 6, cells := 0, slots := 0, locals := 143 } : Room) s m ([.ref m0, .int (nI b)] : List Value).toArray below meth c H locs 0 0 Q (F0 m 9 ls []) := by
    intro nn
    induction nn with
    | zero => intro i hh _ hi hno hmz; exact absurd hmz (Nat.not_lt_zero _)
    | succ nn ih =>
      intro i hh _ hi hno hms H locs ls hP hD hS hl
      refine lv_iload_n hx hb dX7_lands_9 rfl (lv_at hl 2 rfl) ?_
      refine lv_sipush (v := 200) hx hb dX7_lands_10 (by decide) ?_
      refine n_gt (i := i) (j := 200) (tgt := 48) hx hb (by omega) (by omega) dX7_lands_13 (by decide) (fun c13 => ?_) (fun c13 => ?_)
      · skip
        refine lv_sipush (v := (-1000)) hx hb dX7_lands_48 (by decide) ?_
        refine hend ((uA B 8 (hrs (B 0) i)), hh) _ _ _ _ _ (by exact fun a ha => uA_n (a := 8) (k := a) _ _ (by omega)) ?_ hP hD hS dX7_lands_51
        exact (Lnd_no 200 (fun j hj => hno j (by omega))).symm
      · skip
        refine lv_aload_n hx hb dX7_lands_16 rfl (lv_at hl 0 rfl) ?_
        refine lv_sipush (v := 1040) hx hb dX7_lands_17 (by decide) ?_
        refine lv_eqi (y := nI (130 * 8)) (rfl) ?_
        refine kcallV (As := [.int (nI (130 * 8))]) (rest := []) (Wn := [mdO m0 m1 m2 m3 th sv kp ln ca lt fi sd hs, arC cI m1 1170 (enc (uA B 8 (hrs (B 0) i))), arC cI m2 60 T, arC cI m3 8 (ht ((uA B 8 (hrs (B 0) i)) 8))]) X (c_X7_rises l D cI cZ cS cJ m0 m1 m2 m3 th sv kp ln ca lt fi sd hs (uA B 8 (hrs (B 0) i)) T hh 8 (by omega) (by rw [uA_s]; exact GB_T (GB_hrs hG i))) (cwV 1 hts gX7_lands_X7_rises rfl rfl rfl (by decide +kernel) ⟨Nat.le_of_ble_eq_true rfl, Nat.le_of_ble_eq_true rfl⟩) hK hP hD hS hA [0, 1, 2, 3] rfl (by decide +kernel) rfl rfl rfl 0 7 rfl rfl rfl hl.1 rfl (Nat.le_of_ble_eq_true rfl) dX7_lands_20 ⟨Nat.le_of_ble_eq_true rfl, Nat.le_of_ble_eq_true rfl⟩ (fun H locs hP hD hS => ?_)
        refine lv_aload_n hx hb dX7_lands_23 rfl (lv_at hl 0 rfl) ?_
        refine va_get (D := D) (ci := 7) (v := .ref m3) (C := RX7) (T := TX7) (N := 12) hx hb hts hinX7 hown hK hP 0 rfl rfl 10 (by decide) (hts (.fieldLink RX7 16 "RibbonBalloonsModel" "heights" "[I") (by decide +kernel)) (fun _ h9 => h9) rfl dX7_lands_24 ?_
        refine lv_iload_n hx hb dX7_lands_27 rfl (lv_at hl 1 rfl) ?_
        refine r_iald hx hb hK hP 3 0 b (f := ht ((uA B 8 (hrs (B 0) i)) 8)) rfl rfl (by omega) (by omega) dX7_lands_28 ?_
        refine lv_eqi (y := ht (hrs (B 0) i) b) (by rw [uA_s]) ?_
        refine lv_if_ne (tgt := 34) hx hb dX7_lands_29 (by decide) (fun c29 => ?_) (fun c29 => ?_)
        · skip
          have hnz : ¬ itf (B 0) i 6 b = 0 := fun q => c29 ((itf_6 h6 i hb8).symm.trans q)
          refine lv_aload_n hx hb dX7_lands_34 rfl (lv_at hl 0 rfl) ?_
          refine lv_sipush (v := 1040) hx hb dX7_lands_35 (by decide) ?_
          refine lv_eqi (y := nI (130 * 8)) (rfl) ?_
          refine kcallVE (As := [.int (nI (130 * 8))]) (rest := []) (Wn := fun u => [mdO m0 m1 m2 m3 th sv kp ln ca lt fi sd hs, arC cI m1 1170 (enc (uA (uA B 8 (hrs (B 0) i)) 8 (hourS ((uA B 8 (hrs (B 0) i)) 8)))), arC cI m2 60 T, arC cI m3 8 u]) X (c_X7_hour l D cI cZ cS cJ m0 m1 m2 m3 th sv kp ln ca lt fi sd hs (uA B 8 (hrs (B 0) i)) T (ht ((uA B 8 (hrs (B 0) i)) 8)) 8 (by omega) (by rw [uA_s]; exact GB_hrs hG i)) (cwV 1 hts gX7_lands_X7_hour rfl rfl rfl (by decide +kernel) ⟨Nat.le_of_ble_eq_true rfl, Nat.le_of_ble_eq_true rfl⟩) hK hP hD hS hA [0, 1, 2, 3] rfl (by decide +kernel) (fun _ => rfl) (fun _ => rfl) (fun _ => rfl) 0 7 rfl rfl rfl hl.1 rfl (Nat.le_of_ble_eq_true rfl) dX7_lands_38 ⟨Nat.le_of_ble_eq_true rfl, Nat.le_of_ble_eq_true rfl⟩ (fun h9_1 H locs hu hP hD hS => ?_)
          have hP : va_P D vwCl (List.flatten [mdO m0 m1 m2 m3 th sv kp ln ca lt fi sd hs, arC cI m1 1170 (enc (uA (uA B 8 (hrs (B 0) i)) 8 (hourS ((uA B 8 (hrs (B 0) i)) 8)))), arC cI m2 60 T, arC cI m3 8 h9_1]) _ := hP
          have hD : va_D A (List.flatten [mdO m0 m1 m2 m3 th sv kp ln ca lt fi sd hs, arC cI m1 1170 (enc (uA (uA B 8 (hrs (B 0) i)) 8 (hourS ((uA B 8 (hrs (B 0) i)) 8)))), arC cI m2 60 T, arC cI m3 8 h9_1]) := hD
          refine lv_pop hx hb dX7_lands_41 rfl ?_
          refine lv_iinc (v := nI (i + 1)) (lv' := [(2, .int (nI (i + 1))), (0, .ref m0), (1, .int (nI b))]) hx hb dX7_lands_42 hl (k := 2) rfl (nI_add _ _) (by decide) rfl (fun ls hl => ?_)
          refine lv_goto (tgt := 9) hx hb dX7_lands_45 (by decide) ?_
          obtain ⟨hP, hD⟩ := PD_cg hP hD 1 (enc (uA B 8 (hrs (B 0) (i + 1)))) rfl (fun j _ => by rw [uA_s, uA_uA]; rfl) (wn := List.flatten [mdO m0 m1 m2 m3 th sv kp ln ca lt fi sd hs, arC cI m1 1170 (enc (uA B 8 (hrs (B 0) (i + 1)))), arC cI m2 60 T, arC cI m3 8 h9_1]) rfl
          exact ih  (i + 1) h9_1 trivial (by omega) (lt_s hno hnz) (by omega) _ _ _ hP hD hS (lv_sub hl [1, 2, 0] rfl)
        · skip
          refine lv_iload_n hx hb dX7_lands_32 rfl (lv_at hl 2 rfl) ?_
          refine hend ((uA B 8 (hrs (B 0) i)), ht ((uA B 8 (hrs (B 0) i)) 8)) _ _ _ _ _ (by exact fun a ha => uA_n (a := 8) (k := a) _ _ (by omega)) ?_ hP hD hS dX7_lands_33
          exact (Lnd_yes (by omega) hno ((itf_6 h6 i hb8).trans c29) 200 (by omega)).symm
  obtain ⟨hP, hD⟩ := PD_cg hP hD 1 (enc (uA B 8 (hrs (B 0) 0))) rfl (fun j _ => rfl) (wn := List.flatten [mdO m0 m1 m2 m3 th sv kp ln ca lt fi sd hs, arC cI m1 1170 (enc (uA B 8 (hrs (B 0) 0))), arC cI m2 60 T, arC cI m3 8 h]) rfl
  exact lp_9 (201 - 0 + 1) 0 h trivial (by omega) (fun j hj => absurd hj (Nat.not_lt_zero j)) (Nat.lt_succ_self _) _ _ _ hP hD hS (lv_sub hl [1, 2, 0] rfl)

set_option maxHeartbeats 4000000 in
set_option maxRecDepth 100000 in
theorem c_X7_snaps (l : Launch) (D : va_G) (cI cZ cS cJ : ClassId) (m0 : Nat) (m1 : Nat) (m2 : Nat) (m3 : Nat) (th : Int32) (sv : Int32) (kp : Int32) (ln : Int32) (ca : Int32) (lt : Int32) (fi : Int32) (sd : Int32) (hs : Int64) (B : Nat → Nat → Nat → Int32) (T : Nat → Int32) (h : Nat → Int32) (hG : GB (B 0)) (h6 : B 0 6 = ht (B 0)) : CE (U := (Nat → Nat → Nat → Int32) × (Nat → Int32)) l yX7_snaps wsX7_snaps ({ frames := 6, cells := 0, slots := 0, locals := 143 }) D (tyL cI cZ cS cJ) [.ref m0] (List.flatten [mdO m0 m1 m2 m3 th sv kp ln ca lt fi sd hs, arC cI m1 1170 (enc B), arC cI m2 60 T, arC cI m3 8 h]) (fun u => (∀ a, a < 8 → u.1 a = B a)) (fun u => some (.int (Fst (B 0) 200))) (fun u => List.flatten [mdO m0 m1 m2 m3 th sv kp ln ca lt fi sd hs, arC cI m1 1170 (enc u.1), arC cI m2 60 T, arC cI m3 8 u.2]) 0 0 := by
  refine CE_int (cc := cX7_snaps) (maxL := 2) (rt := .int) (by decide) rfl (Nat.le_of_ble_eq_true rfl) (fun _ _ => rfl) ?_
  intro p e s m below meth c A ls Q X hK hP hD hS hA hl hend
  have X : CallFix p m c cX7_snaps 2 s ([.ref m0] : List Value).toArray wsX7_snaps RX7 := X
  obtain ⟨hx, hb, hml, hown, hts⟩ := id X
  have hl : lv_has ls 2 [(0, .ref m0)] := hl
  refine lv_aload_n hx hb dX7_snaps_0 rfl (lv_at hl 0 rfl) ?_
  refine lv_iconst (v := 0) hx hb dX7_snaps_1 (by decide) ?_
  refine lv_bipush (v := 8) hx hb dX7_snaps_2 (by decide) ?_
  refine kcallV (As := [.int 0, .int 8]) (rest := []) (Wn := [mdO m0 m1 m2 m3 th sv kp ln ca lt fi sd hs, arC cI m1 1170 (enc (uA B 8 (B 0))), arC cI m2 60 T, arC cI m3 8 h]) X (c_X7_copies l D cI cZ cS cJ m0 m1 m2 m3 th sv kp ln ca lt fi sd hs B T h 0 8 (by omega) (by omega) (by omega)) (cwV 2 hts gX7_snaps_X7_copies rfl rfl rfl (by decide +kernel) ⟨Nat.le_of_ble_eq_true rfl, Nat.le_of_ble_eq_true rfl⟩) hK hP hD hS hA [0, 1, 2, 3] rfl (by decide +kernel) rfl rfl rfl 0 7 rfl rfl rfl hl.1 rfl (Nat.le_of_ble_eq_true rfl) dX7_snaps_4 ⟨Nat.le_of_ble_eq_true rfl, Nat.le_of_ble_eq_true rfl⟩ (fun H locs hP hD hS => ?_)
  refine lv_iconst (v := 1) hx hb dX7_snaps_7 (by decide) ?_
  refine lv_istore_n (lv' := [(1, .int 1), (0, .ref m0)]) hx hb dX7_snaps_8 rfl hl (by decide) rfl (fun ls hl => ?_)
  have lp_9 : ∀ (nn : Nat) (i : Nat) (hh : Nat → Int32), True → (i ≤ 200) → (∀ j, j < i → svn (hrs (B 0) j) ≤ 0) → 200 - i < nn → ∀ (H : Heap) (locs : List Loc) (ls : Array Slot), va_P D vwCl (List.flatten [mdO m0 m1 m2 m3 th sv kp ln ca lt fi sd hs, arC cI m1 1170 (enc (uA B 8 (hrs (B 0) i))), arC cI m2 60 T, arC cI m3 8 hh]) H → va_D A (List.flatten [mdO m0 m1 m2 m3 th sv kp ln ca lt fi sd hs, arC cI m1 1170 (enc (uA B 8 (hrs (B 0) i))), arC cI m2 60 T, arC cI m3 8 hh]) → va_S A s.heap H locs → lv_has ls 2 [(0, .ref m0), (1, .int (nI (i + 1)))] → W p l e ({ frames := 6, cells := 0, slots := 0, locals := 143 } : Room) s m ([.ref m0] : List Value).toArray below meth c H locs 0 0 Q (F0 m 9 ls []) := by
    intro nn
    induction nn with
    | zero => intro i hh _ hi hno hmz; exact absurd hmz (Nat.not_lt_zero _)
    | succ nn ih =>
      intro i hh _ hi hno hms H locs ls hP hD hS hl
      refine lv_iload_n hx hb dX7_snaps_9 rfl (lv_at hl 1 rfl) ?_
      refine lv_sipush (v := 200) hx hb dX7_snaps_10 (by decide) ?_
      refine n_gt (i := i + 1) (j := 200) (tgt := 34) hx hb (by omega) (by omega) dX7_snaps_13 (by decide) (fun c13 => ?_) (fun c13 => ?_)
      · skip
        refine lv_sipush (v := (-1000)) hx hb dX7_snaps_34 (by decide) ?_
        refine hend ((uA B 8 (hrs (B 0) i)), hh) _ _ _ _ _ (by exact fun a ha => uA_n (a := 8) (k := a) _ _ (by omega)) ?_ hP hD hS dX7_snaps_37
        exact (Fst_no 200 (fun j hj => hno j (by omega))).symm
      · skip
        refine lv_aload_n hx hb dX7_snaps_16 rfl (lv_at hl 0 rfl) ?_
        refine lv_sipush (v := 1040) hx hb dX7_snaps_17 (by decide) ?_
        refine lv_eqi (y := nI (130 * 8)) (rfl) ?_
        refine kcallVE (As := [.int (nI (130 * 8))]) (rest := []) (Wn := fun u => [mdO m0 m1 m2 m3 th sv kp ln ca lt fi sd hs, arC cI m1 1170 (enc (uA (uA B 8 (hrs (B 0) i)) 8 (hourS ((uA B 8 (hrs (B 0) i)) 8)))), arC cI m2 60 T, arC cI m3 8 u]) X (c_X7_hour l D cI cZ cS cJ m0 m1 m2 m3 th sv kp ln ca lt fi sd hs (uA B 8 (hrs (B 0) i)) T hh 8 (by omega) (by rw [uA_s]; exact GB_hrs hG i)) (cwV 1 hts gX7_snaps_X7_hour rfl rfl rfl (by decide +kernel) ⟨Nat.le_of_ble_eq_true rfl, Nat.le_of_ble_eq_true rfl⟩) hK hP hD hS hA [0, 1, 2, 3] rfl (by decide +kernel) (fun _ => rfl) (fun _ => rfl) (fun _ => rfl) 0 7 rfl rfl rfl hl.1 rfl (Nat.le_of_ble_eq_true rfl) dX7_snaps_20 ⟨Nat.le_of_ble_eq_true rfl, Nat.le_of_ble_eq_true rfl⟩ (fun h9_1 H locs hu hP hD hS => ?_)
        have hP : va_P D vwCl (List.flatten [mdO m0 m1 m2 m3 th sv kp ln ca lt fi sd hs, arC cI m1 1170 (enc (uA (uA B 8 (hrs (B 0) i)) 8 (hourS ((uA B 8 (hrs (B 0) i)) 8)))), arC cI m2 60 T, arC cI m3 8 h9_1]) _ := hP
        have hD : va_D A (List.flatten [mdO m0 m1 m2 m3 th sv kp ln ca lt fi sd hs, arC cI m1 1170 (enc (uA (uA B 8 (hrs (B 0) i)) 8 (hourS ((uA B 8 (hrs (B 0) i)) 8)))), arC cI m2 60 T, arC cI m3 8 h9_1]) := hD
        refine lv_eqi (y := svn (hrs (B 0) i)) (by rw [uA_s]) ?_
        refine lv_if_le (tgt := 28) hx hb dX7_snaps_23 (by decide) (fun c23 => ?_) (fun c23 => ?_)
        · skip
          refine lv_iinc (v := nI ((i + 1) + 1)) (lv' := [(1, .int (nI ((i + 1) + 1))), (0, .ref m0)]) hx hb dX7_snaps_28 hl (k := 1) rfl (nI_add _ _) (by decide) rfl (fun ls hl => ?_)
          refine lv_goto (tgt := 9) hx hb dX7_snaps_31 (by decide) ?_
          obtain ⟨hP, hD⟩ := PD_cg hP hD 1 (enc (uA B 8 (hrs (B 0) (i + 1)))) rfl (fun j _ => by rw [uA_s, uA_uA]; rfl) (wn := List.flatten [mdO m0 m1 m2 m3 th sv kp ln ca lt fi sd hs, arC cI m1 1170 (enc (uA B 8 (hrs (B 0) (i + 1)))), arC cI m2 60 T, arC cI m3 8 h9_1]) rfl
          exact ih  (i + 1) h9_1 trivial (by omega) (lt_s hno c23) (by omega) _ _ _ hP hD hS (lv_sub hl [1, 0] rfl)
        · skip
          obtain ⟨hP, hD⟩ := PD_cg hP hD 1 (enc (uA B 8 (hrs (B 0) (i + 1)))) rfl (fun j _ => by rw [uA_s, uA_uA]; rfl) (wn := List.flatten [mdO m0 m1 m2 m3 th sv kp ln ca lt fi sd hs, arC cI m1 1170 (enc (uA B 8 (hrs (B 0) (i + 1)))), arC cI m2 60 T, arC cI m3 8 h9_1]) rfl
          refine lv_iload_n hx hb dX7_snaps_26 rfl (lv_at hl 1 rfl) ?_
          refine hend ((uA B 8 (hrs (B 0) (i + 1))), h9_1) _ _ _ _ _ (by exact fun a ha => uA_n (a := 8) (k := a) _ _ (by omega)) ?_ hP hD hS dX7_snaps_27
          exact (Fst_yes (by omega) hno c23 200 (by omega)).symm
  obtain ⟨hP, hD⟩ := PD_cg hP hD 1 (enc (uA B 8 (hrs (B 0) 0))) rfl (fun j _ => rfl) (wn := List.flatten [mdO m0 m1 m2 m3 th sv kp ln ca lt fi sd hs, arC cI m1 1170 (enc (uA B 8 (hrs (B 0) 0))), arC cI m2 60 T, arC cI m3 8 h]) rfl
  exact lp_9 (200 - 0 + 1) 0 h trivial (by omega) (fun j hj => absurd hj (Nat.not_lt_zero j)) (Nat.lt_succ_self _) _ _ _ hP hD hS (lv_sub hl [1, 0] rfl)

set_option maxHeartbeats 4000000 in
set_option maxRecDepth 100000 in
theorem c_X7_bagOf (l : Launch) (D : va_G) (cI cZ cS cJ : ClassId) (m0 : Nat) (m1 : Nat) (m2 : Nat) (m3 : Nat) (th : Int32) (sv : Int32) (kp : Int32) (ln : Int32) (ca : Int32) (lt : Int32) (fi : Int32) (sd : Int32) (hs : Int64) (B : Nat → Nat → Nat → Int32) (T : Nat → Int32) (h : Nat → Int32) (hG : GB (B 0)) (h6 : B 0 6 = ht (B 0)) : CE (U := (Nat → Nat → Nat → Int32) × (Nat → Int32)) l yX7_bagOf wsX7_bagOf ({ frames := 6, cells := 0, slots := 0, locals := 138 }) D (tyL cI cZ cS cJ) [.ref m0] (List.flatten [mdO m0 m1 m2 m3 th sv kp ln ca lt fi sd hs, arC cI m1 1170 (enc B), arC cI m2 60 T, arC cI m3 8 h]) (fun u => (∀ a, a < 8 → u.1 a = B a)) (fun u => some (.int ((bb (B 0) 8).1))) (fun u => List.flatten [mdO m0 m1 m2 m3 th sv kp ln ca lt fi sd hs, arC cI m1 1170 (enc u.1), arC cI m2 60 T, arC cI m3 8 u.2]) 0 0 := by
  refine CE_int (cc := cX7_bagOf) (maxL := 6) (rt := .int) (by decide) rfl (Nat.le_of_ble_eq_true rfl) (fun _ _ => rfl) ?_
  intro p e s m below meth c A ls Q X hK hP hD hS hA hl hend
  have X : CallFix p m c cX7_bagOf 6 s ([.ref m0] : List Value).toArray wsX7_bagOf RX7 := X
  obtain ⟨hx, hb, hml, hown, hts⟩ := id X
  have hl : lv_has ls 6 [(0, .ref m0)] := hl
  refine lv_sipush (v := (-1000)) hx hb dX7_bagOf_0 (by decide) ?_
  refine lv_istore_n (lv' := [(1, .int (-1000)), (0, .ref m0)]) hx hb dX7_bagOf_3 rfl hl (by decide) rfl (fun ls hl => ?_)
  refine lv_iconst (v := 0) hx hb dX7_bagOf_4 (by decide) ?_
  refine lv_istore_n (lv' := [(2, .int 0), (1, .int (-1000)), (0, .ref m0)]) hx hb dX7_bagOf_5 rfl hl (by decide) rfl (fun ls hl => ?_)
  refine lv_iconst (v := 0) hx hb dX7_bagOf_6 (by decide) ?_
  refine lv_istore_n (lv' := [(3, .int 0), (2, .int 0), (1, .int (-1000)), (0, .ref m0)]) hx hb dX7_bagOf_7 rfl hl (by decide) rfl (fun ls hl => ?_)
  have lp_8 : ∀ (nn : Nat) (i : Nat) (fo : Int32) (mo : Int32) (BB : Nat → Nat → Nat → Int32) (hh : Nat → Int32), True → (i ≤ 8) → (bbI (B 0) i fo mo) → (∀ a, a < 8 → BB a = B a) → 8 - i < nn → ∀ (H : Heap) (locs : List Loc) (ls : Array Slot), va_P D vwCl (List.flatten [mdO m0 m1 m2 m3 th sv kp ln ca lt fi sd hs, arC cI m1 1170 (enc BB), arC cI m2 60 T, arC cI m3 8 hh]) H → va_D A (List.flatten [mdO m0 m1 m2 m3 th sv kp ln ca lt fi sd hs, arC cI m1 1170 (enc BB), arC cI m2 60 T, arC cI m3 8 hh]) → va_S A s.heap H locs → lv_has ls 6 [(0, .ref m0), (1, .int fo), (2, .int mo), (3, .int (nI i))] → W p l e ({ frames := 6, cells := 0, slots := 0, locals := 138 } : Room) s m ([.ref m0] : List Value).toArray below meth c H locs 0 0 Q (F0 m 8 ls []) := by
    intro nn
    induction nn with
    | zero => intro i fo mo BB hh _ hi hbb h8 hmz; exact absurd hmz (Nat.not_lt_zero _)
    | succ nn ih =>
      intro i fo mo BB hh _ hi hbb h8 hms H locs ls hP hD hS hl
      refine lv_iload_n hx hb dX7_bagOf_8 rfl (lv_at hl 3 rfl) ?_
      refine lv_bipush (v := 8) hx hb dX7_bagOf_9 (by decide) ?_
      refine n_ge (i := i) (j := 8) (tgt := 79) hx hb (by omega) (by omega) dX7_bagOf_11 (by decide) (fun c11 => ?_) (fun c11 => ?_)
      · skip
        obtain rfl : i = 8 := by omega
        have hP : va_P D vwCl (List.flatten [mdO m0 m1 m2 m3 th sv kp ln ca lt fi sd hs, arC cI m1 1170 (enc BB), arC cI m2 60 T, arC cI m3 8 hh]) _ := hP
        have hD : va_D A (List.flatten [mdO m0 m1 m2 m3 th sv kp ln ca lt fi sd hs, arC cI m1 1170 (enc BB), arC cI m2 60 T, arC cI m3 8 hh]) := hD
        have hl : lv_has ls 6 [(0, .ref m0), (1, .int fo), (2, .int mo), (3, .int (nI 8))] := hl
        refine lv_iload_n hx hb dX7_bagOf_79 rfl (lv_at hl 1 rfl) ?_
        refine hend (BB, hh) _ _ _ _ _ (by exact h8) ?_ hP hD hS dX7_bagOf_80
        exact bbI_1 hbb
      · skip
        refine lv_aload_n hx hb dX7_bagOf_14 rfl (lv_at hl 0 rfl) ?_
        refine lv_iload_n hx hb dX7_bagOf_15 rfl (lv_at hl 3 rfl) ?_
        refine lv_iconst (v := 1) hx hb dX7_bagOf_16 (by decide) ?_
        refine kcallVE (As := [.int (nI i), .int 1]) (rest := []) (Wn := fun u => [mdO m0 m1 m2 m3 th sv kp ln ca lt fi sd hs, arC cI m1 1170 (enc u.1), arC cI m2 60 T, arC cI m3 8 u.2]) X (c_X7_dropped1 l D cI cZ cS cJ m0 m1 m2 m3 th sv kp ln ca lt fi sd hs BB T hh i (by omega) (by rw [h8 0 (by decide)]; exact hG) (by rw [h8 0 (by decide)]; exact h6)) (cwV 2 hts gX7_bagOf_X7_dropped rfl rfl rfl (by decide +kernel) ⟨Nat.le_of_ble_eq_true rfl, Nat.le_of_ble_eq_true rfl⟩) hK hP hD hS hA [0, 1, 2, 3] rfl (by decide +kernel) (fun _ => rfl) (fun _ => rfl) (fun _ => rfl) 0 7 rfl rfl rfl hl.1 rfl (Nat.le_of_ble_eq_true rfl) dX7_bagOf_17 ⟨Nat.le_of_ble_eq_true rfl, Nat.le_of_ble_eq_true rfl⟩ (fun uu H locs hu hP hD hS => ?_)
        obtain ⟨B9_1, h9_1⟩ := uu
        have h8_1 := hu
        have hP : va_P D vwCl (List.flatten [mdO m0 m1 m2 m3 th sv kp ln ca lt fi sd hs, arC cI m1 1170 (enc B9_1), arC cI m2 60 T, arC cI m3 8 h9_1]) _ := hP
        have hD : va_D A (List.flatten [mdO m0 m1 m2 m3 th sv kp ln ca lt fi sd hs, arC cI m1 1170 (enc B9_1), arC cI m2 60 T, arC cI m3 8 h9_1]) := hD
        refine lv_eqi (y := drpS (B 0) i 1) (by rw [h8 0 (by decide)]) ?_
        refine lv_istore (lv' := [(4, .int (drpS (B 0) i 1)), (0, .ref m0), (1, .int fo), (2, .int mo), (3, .int (nI i))]) hx hb dX7_bagOf_20 hl (by decide) rfl (fun ls hl => ?_)
        refine lv_iload hx hb dX7_bagOf_22 (lv_at hl 0 rfl) ?_
        refine lv_sipush (v := (-1000)) hx hb dX7_bagOf_24 (by decide) ?_
        refine lv_icmp_eq (tgt := 47) hx hb dX7_bagOf_27 (by decide) (fun c27 => ?_) (fun c27 => ?_)
        · skip
          refine lv_iconst (v := 0) hx hb dX7_bagOf_47 (by decide) ?_
          refine lv_istore (lv' := [(5, .int 0), (4, .int (drpS (B 0) i 1)), (0, .ref m0), (1, .int fo), (2, .int mo), (3, .int (nI i))]) hx hb dX7_bagOf_48 hl (by decide) rfl (fun ls hl => ?_)
          refine lv_iload hx hb dX7_bagOf_50 (lv_at hl 0 rfl) ?_
          refine lv_if_eq (tgt := 59) hx hb dX7_bagOf_52 (by decide) (fun _ => ?_) (fun h => absurd (by decide) h)
          refine lv_iload_n hx hb dX7_bagOf_59 rfl (lv_at hl 3 rfl) ?_
          refine lv_istore_n (lv' := [(1, .int fo), (5, .int 0), (4, .int (drpS (B 0) i 1)), (0, .ref m0), (2, .int mo), (3, .int (nI i))]) hx hb dX7_bagOf_60 rfl hl (by decide) rfl (fun ls hl => ?_)
          refine lv_iload hx hb dX7_bagOf_61 (lv_at hl 1 rfl) ?_
          refine lv_if_eq (tgt := 71) hx hb dX7_bagOf_63 (by decide) (fun _ => ?_) (fun h => absurd (by decide) h)
          refine lv_iload_n hx hb dX7_bagOf_71 rfl (lv_at hl 4 rfl) ?_
          refine lv_istore_n (lv' := [(2, .int mo), (1, .int fo), (5, .int 0), (4, .int (drpS (B 0) i 1)), (0, .ref m0), (3, .int (nI i))]) hx hb dX7_bagOf_72 rfl hl (by decide) rfl (fun ls hl => ?_)
          refine lv_iinc (v := nI (i + 1)) (lv' := [(3, .int (nI (i + 1))), (2, .int mo), (1, .int fo), (5, .int 0), (4, .int (drpS (B 0) i 1)), (0, .ref m0)]) hx hb dX7_bagOf_73 hl (k := 5) rfl (nI_add _ _) (by decide) rfl (fun ls hl => ?_)
          refine lv_goto (tgt := 8) hx hb dX7_bagOf_76 (by decide) ?_
          exact ih  (i + 1) fo mo B9_1 h9_1 trivial (by omega) (by first | exact bbI_n1 hbb c27 | exact bbI_n2 hbb c34 c40 | exact bbI_y hG (by omega) hbb c27 (Or.inl c34) | exact bbI_y hG (by omega) hbb c27 (Or.inr c40)) (fun a ha => (h8_1 a ha).trans (h8 a ha)) (by omega) _ _ _ hP hD hS (lv_sub hl [5, 2, 1, 0] rfl)
        · skip
          refine lv_iload_n hx hb dX7_bagOf_30 rfl (lv_at hl 2 rfl) ?_
          refine lv_sipush (v := (-1000)) hx hb dX7_bagOf_31 (by decide) ?_
          refine lv_icmp_eq (tgt := 43) hx hb dX7_bagOf_34 (by decide) (fun c34 => ?_) (fun c34 => ?_)
          · skip
            refine lv_iconst (v := 1) hx hb dX7_bagOf_43 (by decide) ?_
            refine lv_goto (tgt := 48) hx hb dX7_bagOf_44 (by decide) ?_
            refine lv_istore (lv' := [(5, .int 1), (4, .int (drpS (B 0) i 1)), (0, .ref m0), (1, .int fo), (2, .int mo), (3, .int (nI i))]) hx hb dX7_bagOf_48 hl (by decide) rfl (fun ls hl => ?_)
            refine lv_iload hx hb dX7_bagOf_50 (lv_at hl 0 rfl) ?_
            refine lv_if_eq (tgt := 59) hx hb dX7_bagOf_52 (by decide) (fun h => absurd h (by decide)) (fun _ => ?_)
            refine lv_iload_n hx hb dX7_bagOf_55 rfl (lv_at hl 5 rfl) ?_
            refine lv_goto (tgt := 60) hx hb dX7_bagOf_56 (by decide) ?_
            refine lv_istore_n (lv' := [(1, .int (nI i)), (5, .int 1), (4, .int (drpS (B 0) i 1)), (0, .ref m0), (2, .int mo), (3, .int (nI i))]) hx hb dX7_bagOf_60 rfl hl (by decide) rfl (fun ls hl => ?_)
            refine lv_iload hx hb dX7_bagOf_61 (lv_at hl 1 rfl) ?_
            refine lv_if_eq (tgt := 71) hx hb dX7_bagOf_63 (by decide) (fun h => absurd h (by decide)) (fun _ => ?_)
            refine lv_iload hx hb dX7_bagOf_66 (lv_at hl 2 rfl) ?_
            refine lv_goto (tgt := 72) hx hb dX7_bagOf_68 (by decide) ?_
            refine lv_istore_n (lv' := [(2, .int (drpS (B 0) i 1)), (1, .int (nI i)), (5, .int 1), (4, .int (drpS (B 0) i 1)), (0, .ref m0), (3, .int (nI i))]) hx hb dX7_bagOf_72 rfl hl (by decide) rfl (fun ls hl => ?_)
            refine lv_iinc (v := nI (i + 1)) (lv' := [(3, .int (nI (i + 1))), (2, .int (drpS (B 0) i 1)), (1, .int (nI i)), (5, .int 1), (4, .int (drpS (B 0) i 1)), (0, .ref m0)]) hx hb dX7_bagOf_73 hl (k := 5) rfl (nI_add _ _) (by decide) rfl (fun ls hl => ?_)
            refine lv_goto (tgt := 8) hx hb dX7_bagOf_76 (by decide) ?_
            exact ih  (i + 1) (nI i) (drpS (B 0) i 1) B9_1 h9_1 trivial (by omega) (by first | exact bbI_n1 hbb c27 | exact bbI_n2 hbb c34 c40 | exact bbI_y hG (by omega) hbb c27 (Or.inl c34) | exact bbI_y hG (by omega) hbb c27 (Or.inr c40)) (fun a ha => (h8_1 a ha).trans (h8 a ha)) (by omega) _ _ _ hP hD hS (lv_sub hl [5, 2, 1, 0] rfl)
          · skip
            refine lv_iload hx hb dX7_bagOf_37 (lv_at hl 0 rfl) ?_
            refine lv_iload_n hx hb dX7_bagOf_39 rfl (lv_at hl 3 rfl) ?_
            refine lv_icmp_le (tgt := 47) hx hb dX7_bagOf_40 (by decide) (fun c40 => ?_) (fun c40 => ?_)
            · skip
              refine lv_iconst (v := 0) hx hb dX7_bagOf_47 (by decide) ?_
              refine lv_istore (lv' := [(5, .int 0), (4, .int (drpS (B 0) i 1)), (0, .ref m0), (1, .int fo), (2, .int mo), (3, .int (nI i))]) hx hb dX7_bagOf_48 hl (by decide) rfl (fun ls hl => ?_)
              refine lv_iload hx hb dX7_bagOf_50 (lv_at hl 0 rfl) ?_
              refine lv_if_eq (tgt := 59) hx hb dX7_bagOf_52 (by decide) (fun _ => ?_) (fun h => absurd (by decide) h)
              refine lv_iload_n hx hb dX7_bagOf_59 rfl (lv_at hl 3 rfl) ?_
              refine lv_istore_n (lv' := [(1, .int fo), (5, .int 0), (4, .int (drpS (B 0) i 1)), (0, .ref m0), (2, .int mo), (3, .int (nI i))]) hx hb dX7_bagOf_60 rfl hl (by decide) rfl (fun ls hl => ?_)
              refine lv_iload hx hb dX7_bagOf_61 (lv_at hl 1 rfl) ?_
              refine lv_if_eq (tgt := 71) hx hb dX7_bagOf_63 (by decide) (fun _ => ?_) (fun h => absurd (by decide) h)
              refine lv_iload_n hx hb dX7_bagOf_71 rfl (lv_at hl 4 rfl) ?_
              refine lv_istore_n (lv' := [(2, .int mo), (1, .int fo), (5, .int 0), (4, .int (drpS (B 0) i 1)), (0, .ref m0), (3, .int (nI i))]) hx hb dX7_bagOf_72 rfl hl (by decide) rfl (fun ls hl => ?_)
              refine lv_iinc (v := nI (i + 1)) (lv' := [(3, .int (nI (i + 1))), (2, .int mo), (1, .int fo), (5, .int 0), (4, .int (drpS (B 0) i 1)), (0, .ref m0)]) hx hb dX7_bagOf_73 hl (k := 5) rfl (nI_add _ _) (by decide) rfl (fun ls hl => ?_)
              refine lv_goto (tgt := 8) hx hb dX7_bagOf_76 (by decide) ?_
              exact ih  (i + 1) fo mo B9_1 h9_1 trivial (by omega) (by first | exact bbI_n1 hbb c27 | exact bbI_n2 hbb c34 c40 | exact bbI_y hG (by omega) hbb c27 (Or.inl c34) | exact bbI_y hG (by omega) hbb c27 (Or.inr c40)) (fun a ha => (h8_1 a ha).trans (h8 a ha)) (by omega) _ _ _ hP hD hS (lv_sub hl [5, 2, 1, 0] rfl)
            · skip
              refine lv_iconst (v := 1) hx hb dX7_bagOf_43 (by decide) ?_
              refine lv_goto (tgt := 48) hx hb dX7_bagOf_44 (by decide) ?_
              refine lv_istore (lv' := [(5, .int 1), (4, .int (drpS (B 0) i 1)), (0, .ref m0), (1, .int fo), (2, .int mo), (3, .int (nI i))]) hx hb dX7_bagOf_48 hl (by decide) rfl (fun ls hl => ?_)
              refine lv_iload hx hb dX7_bagOf_50 (lv_at hl 0 rfl) ?_
              refine lv_if_eq (tgt := 59) hx hb dX7_bagOf_52 (by decide) (fun h => absurd h (by decide)) (fun _ => ?_)
              refine lv_iload_n hx hb dX7_bagOf_55 rfl (lv_at hl 5 rfl) ?_
              refine lv_goto (tgt := 60) hx hb dX7_bagOf_56 (by decide) ?_
              refine lv_istore_n (lv' := [(1, .int (nI i)), (5, .int 1), (4, .int (drpS (B 0) i 1)), (0, .ref m0), (2, .int mo), (3, .int (nI i))]) hx hb dX7_bagOf_60 rfl hl (by decide) rfl (fun ls hl => ?_)
              refine lv_iload hx hb dX7_bagOf_61 (lv_at hl 1 rfl) ?_
              refine lv_if_eq (tgt := 71) hx hb dX7_bagOf_63 (by decide) (fun h => absurd h (by decide)) (fun _ => ?_)
              refine lv_iload hx hb dX7_bagOf_66 (lv_at hl 2 rfl) ?_
              refine lv_goto (tgt := 72) hx hb dX7_bagOf_68 (by decide) ?_
              refine lv_istore_n (lv' := [(2, .int (drpS (B 0) i 1)), (1, .int (nI i)), (5, .int 1), (4, .int (drpS (B 0) i 1)), (0, .ref m0), (3, .int (nI i))]) hx hb dX7_bagOf_72 rfl hl (by decide) rfl (fun ls hl => ?_)
              refine lv_iinc (v := nI (i + 1)) (lv' := [(3, .int (nI (i + 1))), (2, .int (drpS (B 0) i 1)), (1, .int (nI i)), (5, .int 1), (4, .int (drpS (B 0) i 1)), (0, .ref m0)]) hx hb dX7_bagOf_73 hl (k := 5) rfl (nI_add _ _) (by decide) rfl (fun ls hl => ?_)
              refine lv_goto (tgt := 8) hx hb dX7_bagOf_76 (by decide) ?_
              exact ih  (i + 1) (nI i) (drpS (B 0) i 1) B9_1 h9_1 trivial (by omega) (by first | exact bbI_n1 hbb c27 | exact bbI_n2 hbb c34 c40 | exact bbI_y hG (by omega) hbb c27 (Or.inl c34) | exact bbI_y hG (by omega) hbb c27 (Or.inr c40)) (fun a ha => (h8_1 a ha).trans (h8 a ha)) (by omega) _ _ _ hP hD hS (lv_sub hl [5, 2, 1, 0] rfl)
  exact lp_8 (8 - 0 + 1) 0 (-1000) 0 B h trivial (by omega) (Or.inl ⟨rfl, rfl, rfl⟩) (fun _ _ => rfl) (Nat.lt_succ_self _) _ _ _ hP hD hS (lv_sub hl [3, 2, 1, 0] rfl)

set_option maxHeartbeats 4000000 in
set_option maxRecDepth 100000 in
theorem c_X7_landsIn (l : Launch) (D : va_G) (cI cZ cS cJ : ClassId) (m0 : Nat) (m1 : Nat) (m2 : Nat) (m3 : Nat) (th : Int32) (sv : Int32) (kp : Int32) (ln : Int32) (ca : Int32) (lt : Int32) (fi : Int32) (sd : Int32) (hs : Int64) (B : Nat → Nat → Nat → Int32) (T : Nat → Int32) (h : Nat → Int32) (x : Int32) (hG : GB (B 0)) (h6 : B 0 6 = ht (B 0)) : CE (U := (Int32) × (Nat → Nat → Nat → Int32) × (Nat → Int32) × (Int32)) l yX7_landsIn wsX7_landsIn ({ frames := 7, cells := 0, slots := 0, locals := 165 }) D (tyL cI cZ cS cJ) [.ref m0, .int x] (List.flatten [mdO m0 m1 m2 m3 th sv kp ln ca lt fi sd hs, arC cI m1 1170 (enc B), arC cI m2 60 T, arC cI m3 8 h]) (fun u => (Lk (k1 (isB x)) u.1 (Lnd (B 0) 200 x.toNatClampNeg) u.2.2.2) ∧ (∀ a, a < 8 → u.2.1 a = B a)) (fun u => some (.int u.2.2.2)) (fun u => List.flatten [mdO m0 m1 m2 m3 u.1 sv kp ln ca lt fi sd hs, arC cI m1 1170 (enc u.2.1), arC cI m2 60 T, arC cI m3 8 u.2.2.1]) 0 0 := by
  refine CE_int (cc := cX7_landsIn) (maxL := 2) (rt := .int) (by decide) rfl (Nat.le_of_ble_eq_true rfl) (fun _ _ => rfl) ?_
  intro p e s m below meth c A ls Q X hK hP hD hS hA hl hend
  have X : CallFix p m c cX7_landsIn 2 s ([.ref m0, .int x] : List Value).toArray wsX7_landsIn RX7 := X
  obtain ⟨hx, hb, hml, hown, hts⟩ := id X
  have hl : lv_has ls 2 [(0, .ref m0), (1, .int x)] := hl
  refine lv_aload_n hx hb dX7_landsIn_0 rfl (lv_at hl 0 rfl) ?_
  refine lv_iload_n hx hb dX7_landsIn_1 rfl (lv_at hl 1 rfl) ?_
  refine kcallS (As := [.int x]) (rest := [.ref m0]) (Wn := [mdO m0 m1 m2 m3 th sv kp ln ca lt fi sd hs, arC cI m1 1170 (enc B), arC cI m2 60 T, arC cI m3 8 h]) X (c_X7_isBalloon l D cI cZ cS cJ x) (va_cwS 1 hts gX7_landsIn_X7_isBalloon rfl rfl rfl (by decide +kernel) ⟨Nat.le_of_ble_eq_true rfl, Nat.le_of_ble_eq_true rfl⟩) hK hP hD hS hA [] rfl (by decide +kernel) rfl rfl rfl rfl hl.1 rfl (Nat.le_of_ble_eq_true rfl) dX7_landsIn_2 ⟨Nat.le_of_ble_eq_true rfl, Nat.le_of_ble_eq_true rfl⟩ (fun H locs hP hD hS => ?_)
  refine lv_if_eq (tgt := 12) hx hb dX7_landsIn_5 (by decide) (fun c5 => ?_) (fun c5 => ?_)
  · skip
    refine lv_iconst (v := 1) hx hb dX7_landsIn_12 (by decide) ?_
    refine kcallV (As := [.int 1]) (rest := []) (Wn := [mdO m0 m1 m2 m3 1 sv kp ln ca lt fi sd hs, arC cI m1 1170 (enc B), arC cI m2 60 T, arC cI m3 8 h]) X (c_X7_holds l D cI cZ cS cJ m0 m1 m2 m3 th sv kp ln ca lt fi sd hs B T h 1) (cwV 1 hts gX7_landsIn_X7_holds rfl rfl rfl (by decide +kernel) ⟨Nat.le_of_ble_eq_true rfl, Nat.le_of_ble_eq_true rfl⟩) hK hP hD hS hA [0, 1, 2, 3] rfl (by decide +kernel) rfl rfl rfl 0 7 rfl rfl rfl hl.1 rfl (Nat.le_of_ble_eq_true rfl) dX7_landsIn_13 ⟨Nat.le_of_ble_eq_true rfl, Nat.le_of_ble_eq_true rfl⟩ (fun H locs hP hD hS => ?_)
    refine lv_eqi (y := 0) (by decide) ?_
    refine lv_if_eq (tgt := 27) hx hb dX7_landsIn_16 (by decide) (fun _ => ?_) (fun h => absurd (by decide) h)
    refine lv_iconst (v := 0) hx hb dX7_landsIn_27 (by decide) ?_
    refine hend (1, B, h, 0) _ _ _ _ _ (by exact ⟨by first | exact Lk_bad (k1_1 (b1_z c5)) nz1 | (rw [ec]; exact Lk_ok (k1_0 (b1_t c5)) rfl), by first | exact fun _ _ => rfl | assumption⟩) ?_ hP hD hS dX7_landsIn_28
    exact rfl
  · skip
    obtain ⟨b, hb8, rfl⟩ := bal_of (b1_t c5)
    have hP : va_P D vwCl (List.flatten [mdO m0 m1 m2 m3 th sv kp ln ca lt fi sd hs, arC cI m1 1170 (enc B), arC cI m2 60 T, arC cI m3 8 h]) _ := hP
    have hD : va_D A (List.flatten [mdO m0 m1 m2 m3 th sv kp ln ca lt fi sd hs, arC cI m1 1170 (enc B), arC cI m2 60 T, arC cI m3 8 h]) := hD
    have hl : lv_has ls 2 [(0, .ref m0), (1, .int (nI b))] := hl
    have ec : (nI b).toNatClampNeg = b := nI_clamp (by omega)
    refine lv_iconst (v := 0) hx hb dX7_landsIn_8 (by decide) ?_
    refine lv_goto (tgt := 13) hx hb dX7_landsIn_9 (by decide) ?_
    refine kcallV (As := [.int 0]) (rest := []) (Wn := [mdO m0 m1 m2 m3 0 sv kp ln ca lt fi sd hs, arC cI m1 1170 (enc B), arC cI m2 60 T, arC cI m3 8 h]) X (c_X7_holds l D cI cZ cS cJ m0 m1 m2 m3 th sv kp ln ca lt fi sd hs B T h 0) (cwV 1 hts gX7_landsIn_X7_holds rfl rfl rfl (by decide +kernel) ⟨Nat.le_of_ble_eq_true rfl, Nat.le_of_ble_eq_true rfl⟩) hK hP hD hS hA [0, 1, 2, 3] rfl (by decide +kernel) rfl rfl rfl 0 7 rfl rfl rfl hl.1 rfl (Nat.le_of_ble_eq_true rfl) dX7_landsIn_13 ⟨Nat.le_of_ble_eq_true rfl, Nat.le_of_ble_eq_true rfl⟩ (fun H locs hP hD hS => ?_)
    refine lv_eqi (y := 1) (by decide) ?_
    refine lv_if_eq (tgt := 27) hx hb dX7_landsIn_16 (by decide) (fun h => absurd h (by decide)) (fun _ => ?_)
    refine lv_aload_n hx hb dX7_landsIn_19 rfl (lv_at hl 0 rfl) ?_
    refine lv_iload_n hx hb dX7_landsIn_20 rfl (lv_at hl 1 rfl) ?_
    refine kcallVE (As := [.int (nI b)]) (rest := []) (Wn := fun u => [mdO m0 m1 m2 m3 0 sv kp ln ca lt fi sd hs, arC cI m1 1170 (enc u.1), arC cI m2 60 T, arC cI m3 8 u.2]) X (c_X7_lands l D cI cZ cS cJ m0 m1 m2 m3 0 sv kp ln ca lt fi sd hs B T h b (by omega) hG h6) (cwV 1 hts gX7_landsIn_X7_lands rfl rfl rfl (by decide +kernel) ⟨Nat.le_of_ble_eq_true rfl, Nat.le_of_ble_eq_true rfl⟩) hK hP hD hS hA [0, 1, 2, 3] rfl (by decide +kernel) (fun _ => rfl) (fun _ => rfl) (fun _ => rfl) 0 7 rfl rfl rfl hl.1 rfl (Nat.le_of_ble_eq_true rfl) dX7_landsIn_21 ⟨Nat.le_of_ble_eq_true rfl, Nat.le_of_ble_eq_true rfl⟩ (fun uu H locs hu hP hD hS => ?_)
    obtain ⟨B9_1, h9_1⟩ := uu
    have h8_1 := hu
    have hP : va_P D vwCl (List.flatten [mdO m0 m1 m2 m3 0 sv kp ln ca lt fi sd hs, arC cI m1 1170 (enc B9_1), arC cI m2 60 T, arC cI m3 8 h9_1]) _ := hP
    have hD : va_D A (List.flatten [mdO m0 m1 m2 m3 0 sv kp ln ca lt fi sd hs, arC cI m1 1170 (enc B9_1), arC cI m2 60 T, arC cI m3 8 h9_1]) := hD
    refine lv_goto (tgt := 28) hx hb dX7_landsIn_24 (by decide) ?_
    refine hend (0, B9_1, h9_1, Lnd (B 0) 200 b) _ _ _ _ _ (by exact ⟨by first | exact Lk_bad (k1_1 (b1_z c5)) nz1 | (rw [ec]; exact Lk_ok (k1_0 (b1_t c5)) rfl), by first | exact fun _ _ => rfl | assumption⟩) ?_ hP hD hS dX7_landsIn_28
    exact rfl

set_option maxHeartbeats 4000000 in
set_option maxRecDepth 100000 in
theorem c_X7_snapsIn (l : Launch) (D : va_G) (cI cZ cS cJ : ClassId) (m0 : Nat) (m1 : Nat) (m2 : Nat) (m3 : Nat) (th : Int32) (sv : Int32) (kp : Int32) (ln : Int32) (ca : Int32) (lt : Int32) (fi : Int32) (sd : Int32) (hs : Int64) (B : Nat → Nat → Nat → Int32) (T : Nat → Int32) (h : Nat → Int32) (hG : GB (B 0)) (h6 : B 0 6 = ht (B 0)) : CE (U := (Nat → Nat → Nat → Int32) × (Nat → Int32)) l yX7_snapsIn wsX7_snapsIn ({ frames := 7, cells := 0, slots := 0, locals := 164 }) D (tyL cI cZ cS cJ) [.ref m0] (List.flatten [mdO m0 m1 m2 m3 th sv kp ln ca lt fi sd hs, arC cI m1 1170 (enc B), arC cI m2 60 T, arC cI m3 8 h]) (fun u => (∀ a, a < 8 → u.1 a = B a)) (fun u => some (.int (Fst (B 0) 200))) (fun u => List.flatten [mdO m0 m1 m2 m3 0 sv kp ln ca lt fi sd hs, arC cI m1 1170 (enc u.1), arC cI m2 60 T, arC cI m3 8 u.2]) 0 0 := by
  refine CE_int (cc := cX7_snapsIn) (maxL := 1) (rt := .int) (by decide) rfl (Nat.le_of_ble_eq_true rfl) (fun _ _ => rfl) ?_
  intro p e s m below meth c A ls Q X hK hP hD hS hA hl hend
  have X : CallFix p m c cX7_snapsIn 1 s ([.ref m0] : List Value).toArray wsX7_snapsIn RX7 := X
  obtain ⟨hx, hb, hml, hown, hts⟩ := id X
  have hl : lv_has ls 1 [(0, .ref m0)] := hl
  have hinX7 : ∀ w ∈ u_ws RX7 TX7 12, w ∈ wsX7_snapsIn := by decide +kernel
  refine lv_aload_n hx hb dX7_snapsIn_0 rfl (lv_at hl 0 rfl) ?_
  refine lv_iconst (v := 0) hx hb dX7_snapsIn_1 (by decide) ?_
  refine va_put (D := D) (ci := 7) (v := .int 0) (ty := .int) (C := RX7) (T := TX7) (N := 12) hx hb hts hinX7 tyX7 tyX7_ok nmX7 hown hK hP hD hS 0 rfl rfl 0 (by decide) (hts (.fieldLink RX7 19 "RibbonBalloonsModel" "thrown" "I") (by decide +kernel)) (fun _ h9 => h9) rfl (by decide +kernel) rfl rfl (Nat.le_of_ble_eq_true rfl) dX7_snapsIn_2 (fun H locs hP hD hS => ?_)
  have hP : va_P D vwCl (List.flatten [mdO m0 m1 m2 m3 0 sv kp ln ca lt fi sd hs, arC cI m1 1170 (enc B), arC cI m2 60 T, arC cI m3 8 h]) _ := hP
  have hD : va_D A (List.flatten [mdO m0 m1 m2 m3 0 sv kp ln ca lt fi sd hs, arC cI m1 1170 (enc B), arC cI m2 60 T, arC cI m3 8 h]) := hD
  refine lv_aload_n hx hb dX7_snapsIn_5 rfl (lv_at hl 0 rfl) ?_
  refine kcallVE (As := []) (rest := []) (Wn := fun u => [mdO m0 m1 m2 m3 0 sv kp ln ca lt fi sd hs, arC cI m1 1170 (enc u.1), arC cI m2 60 T, arC cI m3 8 u.2]) X (c_X7_snaps l D cI cZ cS cJ m0 m1 m2 m3 0 sv kp ln ca lt fi sd hs B T h hG h6) (cwV 0 hts gX7_snapsIn_X7_snaps rfl rfl rfl (by decide +kernel) ⟨Nat.le_of_ble_eq_true rfl, Nat.le_of_ble_eq_true rfl⟩) hK hP hD hS hA [0, 1, 2, 3] rfl (by decide +kernel) (fun _ => rfl) (fun _ => rfl) (fun _ => rfl) 0 7 rfl rfl rfl hl.1 rfl (Nat.le_of_ble_eq_true rfl) dX7_snapsIn_6 ⟨Nat.le_of_ble_eq_true rfl, Nat.le_of_ble_eq_true rfl⟩ (fun uu H locs hu hP hD hS => ?_)
  obtain ⟨B9_1, h9_1⟩ := uu
  have h8_1 := hu
  have hP : va_P D vwCl (List.flatten [mdO m0 m1 m2 m3 0 sv kp ln ca lt fi sd hs, arC cI m1 1170 (enc B9_1), arC cI m2 60 T, arC cI m3 8 h9_1]) _ := hP
  have hD : va_D A (List.flatten [mdO m0 m1 m2 m3 0 sv kp ln ca lt fi sd hs, arC cI m1 1170 (enc B9_1), arC cI m2 60 T, arC cI m3 8 h9_1]) := hD
  refine hend (B9_1, h9_1) _ _ _ _ _ (by assumption) ?_ hP hD hS dX7_snapsIn_9
  exact rfl

set_option maxHeartbeats 4000000 in
set_option maxRecDepth 100000 in
theorem c_X7_bestBag (l : Launch) (D : va_G) (cI cZ cS cJ : ClassId) (m0 : Nat) (m1 : Nat) (m2 : Nat) (m3 : Nat) (th : Int32) (sv : Int32) (kp : Int32) (ln : Int32) (ca : Int32) (lt : Int32) (fi : Int32) (sd : Int32) (hs : Int64) (B : Nat → Nat → Nat → Int32) (T : Nat → Int32) (h : Nat → Int32) (hG : GB (B 0)) (h6 : B 0 6 = ht (B 0)) : CE (U := (Nat → Nat → Nat → Int32) × (Nat → Int32)) l yX7_bestBag wsX7_bestBag ({ frames := 7, cells := 0, slots := 0, locals := 163 }) D (tyL cI cZ cS cJ) [.ref m0] (List.flatten [mdO m0 m1 m2 m3 th sv kp ln ca lt fi sd hs, arC cI m1 1170 (enc B), arC cI m2 60 T, arC cI m3 8 h]) (fun u => (∀ a, a < 8 → u.1 a = B a)) (fun u => some (.int ((bb (B 0) 8).1))) (fun u => List.flatten [mdO m0 m1 m2 m3 0 sv kp ln ca lt fi sd hs, arC cI m1 1170 (enc u.1), arC cI m2 60 T, arC cI m3 8 u.2]) 0 0 := by
  refine CE_int (cc := cX7_bestBag) (maxL := 1) (rt := .int) (by decide) rfl (Nat.le_of_ble_eq_true rfl) (fun _ _ => rfl) ?_
  intro p e s m below meth c A ls Q X hK hP hD hS hA hl hend
  have X : CallFix p m c cX7_bestBag 1 s ([.ref m0] : List Value).toArray wsX7_bestBag RX7 := X
  obtain ⟨hx, hb, hml, hown, hts⟩ := id X
  have hl : lv_has ls 1 [(0, .ref m0)] := hl
  have hinX7 : ∀ w ∈ u_ws RX7 TX7 12, w ∈ wsX7_bestBag := by decide +kernel
  refine lv_aload_n hx hb dX7_bestBag_0 rfl (lv_at hl 0 rfl) ?_
  refine lv_iconst (v := 0) hx hb dX7_bestBag_1 (by decide) ?_
  refine va_put (D := D) (ci := 7) (v := .int 0) (ty := .int) (C := RX7) (T := TX7) (N := 12) hx hb hts hinX7 tyX7 tyX7_ok nmX7 hown hK hP hD hS 0 rfl rfl 0 (by decide) (hts (.fieldLink RX7 19 "RibbonBalloonsModel" "thrown" "I") (by decide +kernel)) (fun _ h9 => h9) rfl (by decide +kernel) rfl rfl (Nat.le_of_ble_eq_true rfl) dX7_bestBag_2 (fun H locs hP hD hS => ?_)
  have hP : va_P D vwCl (List.flatten [mdO m0 m1 m2 m3 0 sv kp ln ca lt fi sd hs, arC cI m1 1170 (enc B), arC cI m2 60 T, arC cI m3 8 h]) _ := hP
  have hD : va_D A (List.flatten [mdO m0 m1 m2 m3 0 sv kp ln ca lt fi sd hs, arC cI m1 1170 (enc B), arC cI m2 60 T, arC cI m3 8 h]) := hD
  refine lv_aload_n hx hb dX7_bestBag_5 rfl (lv_at hl 0 rfl) ?_
  refine kcallVE (As := []) (rest := []) (Wn := fun u => [mdO m0 m1 m2 m3 0 sv kp ln ca lt fi sd hs, arC cI m1 1170 (enc u.1), arC cI m2 60 T, arC cI m3 8 u.2]) X (c_X7_bagOf l D cI cZ cS cJ m0 m1 m2 m3 0 sv kp ln ca lt fi sd hs B T h hG h6) (cwV 0 hts gX7_bestBag_X7_bagOf rfl rfl rfl (by decide +kernel) ⟨Nat.le_of_ble_eq_true rfl, Nat.le_of_ble_eq_true rfl⟩) hK hP hD hS hA [0, 1, 2, 3] rfl (by decide +kernel) (fun _ => rfl) (fun _ => rfl) (fun _ => rfl) 0 7 rfl rfl rfl hl.1 rfl (Nat.le_of_ble_eq_true rfl) dX7_bestBag_6 ⟨Nat.le_of_ble_eq_true rfl, Nat.le_of_ble_eq_true rfl⟩ (fun uu H locs hu hP hD hS => ?_)
  obtain ⟨B9_1, h9_1⟩ := uu
  have h8_1 := hu
  have hP : va_P D vwCl (List.flatten [mdO m0 m1 m2 m3 0 sv kp ln ca lt fi sd hs, arC cI m1 1170 (enc B9_1), arC cI m2 60 T, arC cI m3 8 h9_1]) _ := hP
  have hD : va_D A (List.flatten [mdO m0 m1 m2 m3 0 sv kp ln ca lt fi sd hs, arC cI m1 1170 (enc B9_1), arC cI m2 60 T, arC cI m3 8 h9_1]) := hD
  refine hend (B9_1, h9_1) _ _ _ _ _ (by assumption) ?_ hP hD hS dX7_bestBag_9
  exact rfl

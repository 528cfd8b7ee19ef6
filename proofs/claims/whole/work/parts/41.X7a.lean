set_option maxHeartbeats 4000000 in
set_option maxRecDepth 100000 in
theorem c_X7_in (l : Launch) (D : va_G) (cI cZ cS cJ : ClassId) (x : Int32) (lo : Int32) (hi : Int32)  : C0 l yX7_in wsX7_in ({ frames := 0, cells := 0, slots := 0, locals := 0 }) D (tyL cI cZ cS cJ) [.int x, .int lo, .int hi] (List.flatten []) (some (.int (b1 (¬ x < lo ∧ ¬ hi < x)))) (List.flatten []) 0 0 := by
  refine C0_int (cc := cX7_in) (maxL := 3) (rt := .boolean) (by decide) rfl (Nat.le_of_ble_eq_true rfl) (nar_b1 _) ?_
  intro p e s m below meth c A ls Q X hK hP hD hS hA hl hend
  have X : CallFix p m c cX7_in 3 s ([.int x, .int lo, .int hi] : List Value).toArray wsX7_in RX7 := X
  obtain ⟨hx, hb, hml, hown, hts⟩ := id X
  have hl : lv_has ls 3 [(0, .int x), (1, .int lo), (2, .int hi)] := hl
  refine lv_iload_n hx hb dX7_in_0 rfl (lv_at hl 0 rfl) ?_
  refine lv_iload_n hx hb dX7_in_1 rfl (lv_at hl 1 rfl) ?_
  refine lv_icmp_lt (tgt := 14) hx hb dX7_in_2 (by decide) (fun c2 => ?_) (fun c2 => ?_)
  · skip
    refine lv_iconst (v := 0) hx hb dX7_in_14 (by decide) ?_
    refine hend _ _ _ _ _ ?_ hP hD hS dX7_in_15
    first | exact (if_pos ⟨c2, c7⟩).symm | (refine (if_neg ?_).symm; exact fun z => z.1 c2) | (refine (if_neg ?_).symm; exact fun z => z.2 c7)
  · skip
    refine lv_iload_n hx hb dX7_in_5 rfl (lv_at hl 0 rfl) ?_
    refine lv_iload_n hx hb dX7_in_6 rfl (lv_at hl 2 rfl) ?_
    refine lv_icmp_gt (tgt := 14) hx hb dX7_in_7 (by decide) (fun c7 => ?_) (fun c7 => ?_)
    · skip
      refine lv_iconst (v := 0) hx hb dX7_in_14 (by decide) ?_
      refine hend _ _ _ _ _ ?_ hP hD hS dX7_in_15
      first | exact (if_pos ⟨c2, c7⟩).symm | (refine (if_neg ?_).symm; exact fun z => z.1 c2) | (refine (if_neg ?_).symm; exact fun z => z.2 c7)
    · skip
      refine lv_iconst (v := 1) hx hb dX7_in_10 (by decide) ?_
      refine lv_goto (tgt := 15) hx hb dX7_in_11 (by decide) ?_
      refine hend _ _ _ _ _ ?_ hP hD hS dX7_in_15
      first | exact (if_pos ⟨c2, c7⟩).symm | (refine (if_neg ?_).symm; exact fun z => z.1 c2) | (refine (if_neg ?_).symm; exact fun z => z.2 c7)

set_option maxHeartbeats 4000000 in
set_option maxRecDepth 100000 in
theorem c_X7_isBalloon (l : Launch) (D : va_G) (cI cZ cS cJ : ClassId) (x : Int32)  : C0 l yX7_isBalloon wsX7_isBalloon ({ frames := 1, cells := 0, slots := 0, locals := 22 }) D (tyL cI cZ cS cJ) [.int x] (List.flatten []) (some (.int (b1 (¬ x < 0 ∧ ¬ 7 < x)))) (List.flatten []) 0 0 := by
  refine C0_int (cc := cX7_isBalloon) (maxL := 1) (rt := .boolean) (by decide) rfl (Nat.le_of_ble_eq_true rfl) (nar_b1 _) ?_
  intro p e s m below meth c A ls Q X hK hP hD hS hA hl hend
  have X : CallFix p m c cX7_isBalloon 1 s ([.int x] : List Value).toArray wsX7_isBalloon RX7 := X
  obtain ⟨hx, hb, hml, hown, hts⟩ := id X
  have hl : lv_has ls 1 [(0, .int x)] := hl
  refine lv_iload_n hx hb dX7_isBalloon_0 rfl (lv_at hl 0 rfl) ?_
  refine lv_iconst (v := 0) hx hb dX7_isBalloon_1 (by decide) ?_
  refine lv_bipush (v := 7) hx hb dX7_isBalloon_2 (by decide) ?_
  refine kcallS (As := [.int x, .int 0, .int 7]) (rest := []) (Wn := []) X (c_X7_in l D cI cZ cS cJ x 0 7) (va_cwS 3 hts gX7_isBalloon_X7_in rfl rfl rfl (by decide +kernel) ⟨Nat.le_of_ble_eq_true rfl, Nat.le_of_ble_eq_true rfl⟩) hK hP hD hS hA [] rfl (by decide +kernel) rfl rfl rfl rfl hl.1 rfl (Nat.le_of_ble_eq_true rfl) dX7_isBalloon_4 ⟨Nat.le_of_ble_eq_true rfl, Nat.le_of_ble_eq_true rfl⟩ (fun H locs hP hD hS => ?_)
  refine hend _ _ _ _ _ ?_ hP hD hS dX7_isBalloon_7
  exact rfl

set_option maxHeartbeats 4000000 in
set_option maxRecDepth 100000 in
theorem c_X7_isRibbon (l : Launch) (D : va_G) (cI cZ cS cJ : ClassId) (x : Int32)  : C0 l yX7_isRibbon wsX7_isRibbon ({ frames := 1, cells := 0, slots := 0, locals := 22 }) D (tyL cI cZ cS cJ) [.int x] (List.flatten []) (some (.int (b1 (¬ x < 0 ∧ ¬ 6 < x)))) (List.flatten []) 0 0 := by
  refine C0_int (cc := cX7_isRibbon) (maxL := 1) (rt := .boolean) (by decide) rfl (Nat.le_of_ble_eq_true rfl) (nar_b1 _) ?_
  intro p e s m below meth c A ls Q X hK hP hD hS hA hl hend
  have X : CallFix p m c cX7_isRibbon 1 s ([.int x] : List Value).toArray wsX7_isRibbon RX7 := X
  obtain ⟨hx, hb, hml, hown, hts⟩ := id X
  have hl : lv_has ls 1 [(0, .int x)] := hl
  refine lv_iload_n hx hb dX7_isRibbon_0 rfl (lv_at hl 0 rfl) ?_
  refine lv_iconst (v := 0) hx hb dX7_isRibbon_1 (by decide) ?_
  refine lv_bipush (v := 6) hx hb dX7_isRibbon_2 (by decide) ?_
  refine kcallS (As := [.int x, .int 0, .int 6]) (rest := []) (Wn := []) X (c_X7_in l D cI cZ cS cJ x 0 6) (va_cwS 3 hts gX7_isRibbon_X7_in rfl rfl rfl (by decide +kernel) ⟨Nat.le_of_ble_eq_true rfl, Nat.le_of_ble_eq_true rfl⟩) hK hP hD hS hA [] rfl (by decide +kernel) rfl rfl rfl rfl hl.1 rfl (Nat.le_of_ble_eq_true rfl) dX7_isRibbon_4 ⟨Nat.le_of_ble_eq_true rfl, Nat.le_of_ble_eq_true rfl⟩ (fun H locs hP hD hS => ?_)
  refine hend _ _ _ _ _ ?_ hP hD hS dX7_isRibbon_7
  exact rfl

set_option maxHeartbeats 4000000 in
set_option maxRecDepth 100000 in
theorem c_X7_isAmount (l : Launch) (D : va_G) (cI cZ cS cJ : ClassId) (x : Int32)  : C0 l yX7_isAmount wsX7_isAmount ({ frames := 1, cells := 0, slots := 0, locals := 22 }) D (tyL cI cZ cS cJ) [.int x] (List.flatten []) (some (.int (b1 (¬ x < 1 ∧ ¬ 99 < x)))) (List.flatten []) 0 0 := by
  refine C0_int (cc := cX7_isAmount) (maxL := 1) (rt := .boolean) (by decide) rfl (Nat.le_of_ble_eq_true rfl) (nar_b1 _) ?_
  intro p e s m below meth c A ls Q X hK hP hD hS hA hl hend
  have X : CallFix p m c cX7_isAmount 1 s ([.int x] : List Value).toArray wsX7_isAmount RX7 := X
  obtain ⟨hx, hb, hml, hown, hts⟩ := id X
  have hl : lv_has ls 1 [(0, .int x)] := hl
  refine lv_iload_n hx hb dX7_isAmount_0 rfl (lv_at hl 0 rfl) ?_
  refine lv_iconst (v := 1) hx hb dX7_isAmount_1 (by decide) ?_
  refine lv_bipush (v := 99) hx hb dX7_isAmount_2 (by decide) ?_
  refine kcallS (As := [.int x, .int 1, .int 99]) (rest := []) (Wn := []) X (c_X7_in l D cI cZ cS cJ x 1 99) (va_cwS 3 hts gX7_isAmount_X7_in rfl rfl rfl (by decide +kernel) ⟨Nat.le_of_ble_eq_true rfl, Nat.le_of_ble_eq_true rfl⟩) hK hP hD hS hA [] rfl (by decide +kernel) rfl rfl rfl rfl hl.1 rfl (Nat.le_of_ble_eq_true rfl) dX7_isAmount_4 ⟨Nat.le_of_ble_eq_true rfl, Nat.le_of_ble_eq_true rfl⟩ (fun H locs hP hD hS => ?_)
  refine hend _ _ _ _ _ ?_ hP hD hS dX7_isAmount_7
  exact rfl

set_option maxHeartbeats 4000000 in
set_option maxRecDepth 100000 in
theorem c_X7_lesser (l : Launch) (D : va_G) (cI cZ cS cJ : ClassId) (x : Int32) (y : Int32)  : C0 l yX7_lesser wsX7_lesser ({ frames := 0, cells := 0, slots := 0, locals := 0 }) D (tyL cI cZ cS cJ) [.int x, .int y] (List.flatten []) (some (.int (mn x y))) (List.flatten []) 0 0 := by
  refine C0_int (cc := cX7_lesser) (maxL := 2) (rt := .int) (by decide) rfl (Nat.le_of_ble_eq_true rfl) (rfl) ?_
  intro p e s m below meth c A ls Q X hK hP hD hS hA hl hend
  have X : CallFix p m c cX7_lesser 2 s ([.int x, .int y] : List Value).toArray wsX7_lesser RX7 := X
  obtain ⟨hx, hb, hml, hown, hts⟩ := id X
  have hl : lv_has ls 2 [(0, .int x), (1, .int y)] := hl
  refine lv_iload_n hx hb dX7_lesser_0 rfl (lv_at hl 0 rfl) ?_
  refine lv_iload_n hx hb dX7_lesser_1 rfl (lv_at hl 1 rfl) ?_
  refine lv_icmp_ge (tgt := 9) hx hb dX7_lesser_2 (by decide) (fun c2 => ?_) (fun c2 => ?_)
  · skip
    refine lv_iload_n hx hb dX7_lesser_9 rfl (lv_at hl 1 rfl) ?_
    refine hend _ _ _ _ _ ?_ hP hD hS dX7_lesser_10
    first | exact les1 c2 | exact les2 c2
  · skip
    refine lv_iload_n hx hb dX7_lesser_5 rfl (lv_at hl 0 rfl) ?_
    refine lv_goto (tgt := 10) hx hb dX7_lesser_6 (by decide) ?_
    refine hend _ _ _ _ _ ?_ hP hD hS dX7_lesser_10
    first | exact les1 c2 | exact les2 c2

set_option maxHeartbeats 4000000 in
set_option maxRecDepth 100000 in
theorem c_X7_thrown (l : Launch) (D : va_G) (cI cZ cS cJ : ClassId) (m0 : Nat) (m1 : Nat) (m2 : Nat) (m3 : Nat) (th : Int32) (sv : Int32) (kp : Int32) (ln : Int32) (ca : Int32) (lt : Int32) (fi : Int32) (sd : Int32) (hs : Int64) (B : Nat → Nat → Nat → Int32) (T : Nat → Int32) (h : Nat → Int32)  : C0 l yX7_thrown wsX7_thrown ({ frames := 0, cells := 0, slots := 0, locals := 0 }) D (tyL cI cZ cS cJ) [.ref m0] (List.flatten [mdO m0 m1 m2 m3 th sv kp ln ca lt fi sd hs, arC cI m1 1170 (enc B), arC cI m2 60 T, arC cI m3 8 h]) (some (.int th)) (List.flatten [mdO m0 m1 m2 m3 th sv kp ln ca lt fi sd hs, arC cI m1 1170 (enc B), arC cI m2 60 T, arC cI m3 8 h]) 0 0 := by
  refine C0_int (cc := cX7_thrown) (maxL := 1) (rt := .int) (by decide) rfl (Nat.le_of_ble_eq_true rfl) (rfl) ?_
  intro p e s m below meth c A ls Q X hK hP hD hS hA hl hend
  have X : CallFix p m c cX7_thrown 1 s ([.ref m0] : List Value).toArray wsX7_thrown RX7 := X
  obtain ⟨hx, hb, hml, hown, hts⟩ := id X
  have hl : lv_has ls 1 [(0, .ref m0)] := hl
  have hinX7 : ∀ w ∈ u_ws RX7 TX7 12, w ∈ wsX7_thrown := by decide +kernel
  refine lv_aload_n hx hb dX7_thrown_0 rfl (lv_at hl 0 rfl) ?_
  refine va_get (D := D) (ci := 7) (v := .int th) (C := RX7) (T := TX7) (N := 12) hx hb hts hinX7 hown hK hP 0 rfl rfl 0 (by decide) (hts (.fieldLink RX7 19 "RibbonBalloonsModel" "thrown" "I") (by decide +kernel)) (fun _ h9 => h9) rfl dX7_thrown_1 ?_
  refine hend _ _ _ _ _ ?_ hP hD hS dX7_thrown_4
  exact rfl

set_option maxHeartbeats 4000000 in
set_option maxRecDepth 100000 in
theorem c_X7_holds (l : Launch) (D : va_G) (cI cZ cS cJ : ClassId) (m0 : Nat) (m1 : Nat) (m2 : Nat) (m3 : Nat) (th : Int32) (sv : Int32) (kp : Int32) (ln : Int32) (ca : Int32) (lt : Int32) (fi : Int32) (sd : Int32) (hs : Int64) (B : Nat → Nat → Nat → Int32) (T : Nat → Int32) (h : Nat → Int32) (x : Int32)  : C0 l yX7_holds wsX7_holds ({ frames := 0, cells := 0, slots := 0, locals := 0 }) D (tyL cI cZ cS cJ) [.ref m0, .int x] (List.flatten [mdO m0 m1 m2 m3 th sv kp ln ca lt fi sd hs, arC cI m1 1170 (enc B), arC cI m2 60 T, arC cI m3 8 h]) (some (.int (b1 (x = 0)))) (List.flatten [mdO m0 m1 m2 m3 x sv kp ln ca lt fi sd hs, arC cI m1 1170 (enc B), arC cI m2 60 T, arC cI m3 8 h]) 0 0 := by
  refine C0_int (cc := cX7_holds) (maxL := 2) (rt := .boolean) (by decide) rfl (Nat.le_of_ble_eq_true rfl) (nar_b1 _) ?_
  intro p e s m below meth c A ls Q X hK hP hD hS hA hl hend
  have X : CallFix p m c cX7_holds 2 s ([.ref m0, .int x] : List Value).toArray wsX7_holds RX7 := X
  obtain ⟨hx, hb, hml, hown, hts⟩ := id X
  have hl : lv_has ls 2 [(0, .ref m0), (1, .int x)] := hl
  have hinX7 : ∀ w ∈ u_ws RX7 TX7 12, w ∈ wsX7_holds := by decide +kernel
  refine lv_aload_n hx hb dX7_holds_0 rfl (lv_at hl 0 rfl) ?_
  refine lv_iload_n hx hb dX7_holds_1 rfl (lv_at hl 1 rfl) ?_
  refine va_put (D := D) (ci := 7) (v := .int x) (ty := .int) (C := RX7) (T := TX7) (N := 12) hx hb hts hinX7 tyX7 tyX7_ok nmX7 hown hK hP hD hS 0 rfl rfl 0 (by decide) (hts (.fieldLink RX7 19 "RibbonBalloonsModel" "thrown" "I") (by decide +kernel)) (fun _ h9 => h9) rfl (by decide +kernel) rfl rfl (Nat.le_of_ble_eq_true rfl) dX7_holds_2 (fun H locs hP hD hS => ?_)
  have hP : va_P D vwCl (List.flatten [mdO m0 m1 m2 m3 x sv kp ln ca lt fi sd hs, arC cI m1 1170 (enc B), arC cI m2 60 T, arC cI m3 8 h]) _ := hP
  have hD : va_D A (List.flatten [mdO m0 m1 m2 m3 x sv kp ln ca lt fi sd hs, arC cI m1 1170 (enc B), arC cI m2 60 T, arC cI m3 8 h]) := hD
  refine lv_iload_n hx hb dX7_holds_5 rfl (lv_at hl 1 rfl) ?_
  refine lv_if_ne (tgt := 13) hx hb dX7_holds_6 (by decide) (fun c6 => ?_) (fun c6 => ?_)
  · skip
    refine lv_iconst (v := 0) hx hb dX7_holds_13 (by decide) ?_
    refine hend _ _ _ _ _ ?_ hP hD hS dX7_holds_14
    first | exact (if_pos c6).symm | exact (if_neg c6).symm
  · skip
    refine lv_iconst (v := 1) hx hb dX7_holds_9 (by decide) ?_
    refine lv_goto (tgt := 14) hx hb dX7_holds_10 (by decide) ?_
    refine hend _ _ _ _ _ ?_ hP hD hS dX7_holds_14
    first | exact (if_pos c6).symm | exact (if_neg c6).symm

set_option maxHeartbeats 4000000 in
set_option maxRecDepth 100000 in
theorem c_X7_of0 (l : Launch) (D : va_G) (cI cZ cS cJ : ClassId) (m0 : Nat) (m1 : Nat) (m2 : Nat) (m3 : Nat) (th : Int32) (sv : Int32) (kp : Int32) (ln : Int32) (ca : Int32) (lt : Int32) (fi : Int32) (sd : Int32) (hs : Int64) (B : Nat → Nat → Nat → Int32) (T : Nat → Int32) (h : Nat → Int32) (a : Nat) (k : Nat) (ha : a ≤ 8) (hk8 : k < 8) : C0 l yX7_of wsX7_of ({ frames := 0, cells := 0, slots := 0, locals := 0 }) D (tyL cI cZ cS cJ) [.ref m0, .int (nI (130 * a)), .int (nI k), .int 0] (List.flatten [mdO m0 m1 m2 m3 th sv kp ln ca lt fi sd hs, arC cI m1 1170 (enc B), arC cI m2 60 T, arC cI m3 8 h]) (some (.int (B a 0 k))) (List.flatten [mdO m0 m1 m2 m3 th sv kp ln ca lt fi sd hs, arC cI m1 1170 (enc B), arC cI m2 60 T, arC cI m3 8 h]) 0 0 := by
  refine C0_int (cc := cX7_of) (maxL := 4) (rt := .int) (by decide) rfl (Nat.le_of_ble_eq_true rfl) (rfl) ?_
  intro p e s m below meth c A ls Q X hK hP hD hS hA hl hend
  have X : CallFix p m c cX7_of 4 s ([.ref m0, .int (nI (130 * a)), .int (nI k), .int 0] : List Value).toArray wsX7_of RX7 := X
  obtain ⟨hx, hb, hml, hown, hts⟩ := id X
  have hl : lv_has ls 4 [(0, .ref m0), (1, .int (nI (130 * a))), (2, .int (nI k)), (3, .int 0)] := hl
  have hinX7 : ∀ w ∈ u_ws RX7 TX7 12, w ∈ wsX7_of := by decide +kernel
  refine lv_aload_n hx hb dX7_of_0 rfl (lv_at hl 0 rfl) ?_
  refine va_get (D := D) (ci := 7) (v := .ref m1) (C := RX7) (T := TX7) (N := 12) hx hb hts hinX7 hown hK hP 0 rfl rfl 1 (by decide) (hts (.fieldLink RX7 7 "RibbonBalloonsModel" "s" "[I") (by decide +kernel)) (fun _ h9 => h9) rfl dX7_of_1 ?_
  refine lv_iload_n hx hb dX7_of_4 rfl (lv_at hl 1 rfl) ?_
  refine lv_bipush (v := 9) hx hb dX7_of_5 (by decide) ?_
  refine lv_iadd hx hb dX7_of_7 ?_
  refine lv_eqi (y := nI ((130 * a) + 9)) (nI_add _ _) ?_
  refine lv_iconst (v := 5) hx hb dX7_of_8 (by decide) ?_
  refine lv_iload_n hx hb dX7_of_9 rfl (lv_at hl 2 rfl) ?_
  refine lv_imul hx hb dX7_of_10 ?_
  refine lv_eqi (y := nI (5 * k)) (pk_mul _ _) ?_
  refine lv_iadd hx hb dX7_of_11 ?_
  refine lv_eqi (y := nI (((130 * a) + 9) + (5 * k))) (nI_add _ _) ?_
  refine lv_iload_n hx hb dX7_of_12 rfl (lv_at hl 3 rfl) ?_
  refine lv_iadd hx hb dX7_of_13 ?_
  refine lv_eqi (y := nI ((((130 * a) + 9) + (5 * k)) + 0)) (nI_add _ _) ?_
  refine r_iald hx hb hK hP 1 0 ((((130 * a) + 9) + (5 * k)) + 0) (f := enc B) rfl rfl (by omega) (by omega) dX7_of_14 ?_
  refine hend _ _ _ _ _ ?_ hP hD hS dX7_of_15
  exact enc_b B (w := 0) hk8 (by decide)

set_option maxHeartbeats 4000000 in
set_option maxRecDepth 100000 in
theorem c_X7_adds0 (l : Launch) (D : va_G) (cI cZ cS cJ : ClassId) (m0 : Nat) (m1 : Nat) (m2 : Nat) (m3 : Nat) (th : Int32) (sv : Int32) (kp : Int32) (ln : Int32) (ca : Int32) (lt : Int32) (fi : Int32) (sd : Int32) (hs : Int64) (B : Nat → Nat → Nat → Int32) (T : Nat → Int32) (h : Nat → Int32) (a : Nat) (k : Nat) (x : Int32) (ha : a ≤ 8) (hk8 : k < 8) : C0 l yX7_adds wsX7_adds ({ frames := 0, cells := 0, slots := 0, locals := 0 }) D (tyL cI cZ cS cJ) [.ref m0, .int (nI (130 * a)), .int (nI k), .int 0, .int x] (List.flatten [mdO m0 m1 m2 m3 th sv kp ln ca lt fi sd hs, arC cI m1 1170 (enc B), arC cI m2 60 T, arC cI m3 8 h]) none (List.flatten [mdO m0 m1 m2 m3 th sv kp ln ca lt fi sd hs, arC cI m1 1170 (enc (uA B a (u2 (B a) 0 k ((B a 0 k) + x)))), arC cI m2 60 T, arC cI m3 8 h]) 0 0 := by
  refine C0_void (cc := cX7_adds) (maxL := 5) (by decide) rfl (Nat.le_of_ble_eq_true rfl) ?_
  intro p e s m below meth c A ls Q X hnm hK hP hD hS hA hl hend
  have X : CallFix p m c cX7_adds 5 s ([.ref m0, .int (nI (130 * a)), .int (nI k), .int 0, .int x] : List Value).toArray wsX7_adds RX7 := X
  obtain ⟨hx, hb, hml, hown, hts⟩ := id X
  have hl : lv_has ls 5 [(0, .ref m0), (1, .int (nI (130 * a))), (2, .int (nI k)), (3, .int 0), (4, .int x)] := hl
  have hinX7 : ∀ w ∈ u_ws RX7 TX7 12, w ∈ wsX7_adds := by decide +kernel
  refine lv_aload_n hx hb dX7_adds_0 rfl (lv_at hl 0 rfl) ?_
  refine va_get (D := D) (ci := 7) (v := .ref m1) (C := RX7) (T := TX7) (N := 12) hx hb hts hinX7 hown hK hP 0 rfl rfl 1 (by decide) (hts (.fieldLink RX7 7 "RibbonBalloonsModel" "s" "[I") (by decide +kernel)) (fun _ h9 => h9) rfl dX7_adds_1 ?_
  refine lv_iload_n hx hb dX7_adds_4 rfl (lv_at hl 1 rfl) ?_
  refine lv_bipush (v := 9) hx hb dX7_adds_5 (by decide) ?_
  refine lv_iadd hx hb dX7_adds_7 ?_
  refine lv_eqi (y := nI ((130 * a) + 9)) (nI_add _ _) ?_
  refine lv_iconst (v := 5) hx hb dX7_adds_8 (by decide) ?_
  refine lv_iload_n hx hb dX7_adds_9 rfl (lv_at hl 2 rfl) ?_
  refine lv_imul hx hb dX7_adds_10 ?_
  refine lv_eqi (y := nI (5 * k)) (pk_mul _ _) ?_
  refine lv_iadd hx hb dX7_adds_11 ?_
  refine lv_eqi (y := nI (((130 * a) + 9) + (5 * k))) (nI_add _ _) ?_
  refine lv_iload_n hx hb dX7_adds_12 rfl (lv_at hl 3 rfl) ?_
  refine lv_iadd hx hb dX7_adds_13 ?_
  refine lv_eqi (y := nI ((((130 * a) + 9) + (5 * k)) + 0)) (nI_add _ _) ?_
  refine lv_dup2_11 hx hb dX7_adds_14 rfl rfl ?_
  refine r_iald hx hb hK hP 1 0 ((((130 * a) + 9) + (5 * k)) + 0) (f := enc B) rfl rfl (by omega) (by omega) dX7_adds_15 ?_
  refine lv_iload hx hb dX7_adds_16 (lv_at hl 4 rfl) ?_
  refine lv_iadd hx hb dX7_adds_18 ?_
  refine r_iast hx hb hK hP hD hS 1 0 ((((130 * a) + 9) + (5 * k)) + 0) (f := enc B) (x := ((enc B) ((((130 * a) + 9) + (5 * k)) + 0)) + x) (wn := List.flatten [mdO m0 m1 m2 m3 th sv kp ln ca lt fi sd hs, arC cI m1 1170 (upd (enc B) ((((130 * a) + 9) + (5 * k)) + 0) (((enc B) ((((130 * a) + 9) + (5 * k)) + 0)) + x)), arC cI m2 60 T, arC cI m3 8 h]) rfl rfl (by omega) (by omega) rfl dX7_adds_19 (fun H locs hP hD hS => ?_)
  obtain ⟨hP, hD⟩ := PD_cg hP hD 1 (enc (uA B a (u2 (B a) 0 k ((B a 0 k) + x)))) rfl (fun j _ => by rw [enc_b B (w := 0) hk8 (by decide)]; exact congrFun (enc_ub B (w := 0) hk8 (by decide) _) j) (wn := List.flatten [mdO m0 m1 m2 m3 th sv kp ln ca lt fi sd hs, arC cI m1 1170 (enc (uA B a (u2 (B a) 0 k ((B a 0 k) + x)))), arC cI m2 60 T, arC cI m3 8 h]) rfl
  exact hend _ _ _ _ hP hD hS dX7_adds_20

set_option maxHeartbeats 4000000 in
set_option maxRecDepth 100000 in
theorem c_X7_of1 (l : Launch) (D : va_G) (cI cZ cS cJ : ClassId) (m0 : Nat) (m1 : Nat) (m2 : Nat) (m3 : Nat) (th : Int32) (sv : Int32) (kp : Int32) (ln : Int32) (ca : Int32) (lt : Int32) (fi : Int32) (sd : Int32) (hs : Int64) (B : Nat → Nat → Nat → Int32) (T : Nat → Int32) (h : Nat → Int32) (a : Nat) (k : Nat) (ha : a ≤ 8) (hk8 : k < 8) : C0 l yX7_of wsX7_of ({ frames := 0, cells := 0, slots := 0, locals := 0 }) D (tyL cI cZ cS cJ) [.ref m0, .int (nI (130 * a)), .int (nI k), .int 1] (List.flatten [mdO m0 m1 m2 m3 th sv kp ln ca lt fi sd hs, arC cI m1 1170 (enc B), arC cI m2 60 T, arC cI m3 8 h]) (some (.int (B a 1 k))) (List.flatten [mdO m0 m1 m2 m3 th sv kp ln ca lt fi sd hs, arC cI m1 1170 (enc B), arC cI m2 60 T, arC cI m3 8 h]) 0 0 := by
  refine C0_int (cc := cX7_of) (maxL := 4) (rt := .int) (by decide) rfl (Nat.le_of_ble_eq_true rfl) (rfl) ?_
  intro p e s m below meth c A ls Q X hK hP hD hS hA hl hend
  have X : CallFix p m c cX7_of 4 s ([.ref m0, .int (nI (130 * a)), .int (nI k), .int 1] : List Value).toArray wsX7_of RX7 := X
  obtain ⟨hx, hb, hml, hown, hts⟩ := id X
  have hl : lv_has ls 4 [(0, .ref m0), (1, .int (nI (130 * a))), (2, .int (nI k)), (3, .int 1)] := hl
  have hinX7 : ∀ w ∈ u_ws RX7 TX7 12, w ∈ wsX7_of := by decide +kernel
  refine lv_aload_n hx hb dX7_of_0 rfl (lv_at hl 0 rfl) ?_
  refine va_get (D := D) (ci := 7) (v := .ref m1) (C := RX7) (T := TX7) (N := 12) hx hb hts hinX7 hown hK hP 0 rfl rfl 1 (by decide) (hts (.fieldLink RX7 7 "RibbonBalloonsModel" "s" "[I") (by decide +kernel)) (fun _ h9 => h9) rfl dX7_of_1 ?_
  refine lv_iload_n hx hb dX7_of_4 rfl (lv_at hl 1 rfl) ?_
  refine lv_bipush (v := 9) hx hb dX7_of_5 (by decide) ?_
  refine lv_iadd hx hb dX7_of_7 ?_
  refine lv_eqi (y := nI ((130 * a) + 9)) (nI_add _ _) ?_
  refine lv_iconst (v := 5) hx hb dX7_of_8 (by decide) ?_
  refine lv_iload_n hx hb dX7_of_9 rfl (lv_at hl 2 rfl) ?_
  refine lv_imul hx hb dX7_of_10 ?_
  refine lv_eqi (y := nI (5 * k)) (pk_mul _ _) ?_
  refine lv_iadd hx hb dX7_of_11 ?_
  refine lv_eqi (y := nI (((130 * a) + 9) + (5 * k))) (nI_add _ _) ?_
  refine lv_iload_n hx hb dX7_of_12 rfl (lv_at hl 3 rfl) ?_
  refine lv_iadd hx hb dX7_of_13 ?_
  refine lv_eqi (y := nI ((((130 * a) + 9) + (5 * k)) + 1)) (nI_add _ _) ?_
  refine r_iald hx hb hK hP 1 0 ((((130 * a) + 9) + (5 * k)) + 1) (f := enc B) rfl rfl (by omega) (by omega) dX7_of_14 ?_
  refine hend _ _ _ _ _ ?_ hP hD hS dX7_of_15
  exact enc_b B (w := 1) hk8 (by decide)

set_option maxHeartbeats 4000000 in
set_option maxRecDepth 100000 in
theorem c_X7_adds1 (l : Launch) (D : va_G) (cI cZ cS cJ : ClassId) (m0 : Nat) (m1 : Nat) (m2 : Nat) (m3 : Nat) (th : Int32) (sv : Int32) (kp : Int32) (ln : Int32) (ca : Int32) (lt : Int32) (fi : Int32) (sd : Int32) (hs : Int64) (B : Nat → Nat → Nat → Int32) (T : Nat → Int32) (h : Nat → Int32) (a : Nat) (k : Nat) (x : Int32) (ha : a ≤ 8) (hk8 : k < 8) : C0 l yX7_adds wsX7_adds ({ frames := 0, cells := 0, slots := 0, locals := 0 }) D (tyL cI cZ cS cJ) [.ref m0, .int (nI (130 * a)), .int (nI k), .int 1, .int x] (List.flatten [mdO m0 m1 m2 m3 th sv kp ln ca lt fi sd hs, arC cI m1 1170 (enc B), arC cI m2 60 T, arC cI m3 8 h]) none (List.flatten [mdO m0 m1 m2 m3 th sv kp ln ca lt fi sd hs, arC cI m1 1170 (enc (uA B a (u2 (B a) 1 k ((B a 1 k) + x)))), arC cI m2 60 T, arC cI m3 8 h]) 0 0 := by
  refine C0_void (cc := cX7_adds) (maxL := 5) (by decide) rfl (Nat.le_of_ble_eq_true rfl) ?_
  intro p e s m below meth c A ls Q X hnm hK hP hD hS hA hl hend
  have X : CallFix p m c cX7_adds 5 s ([.ref m0, .int (nI (130 * a)), .int (nI k), .int 1, .int x] : List Value).toArray wsX7_adds RX7 := X
  obtain ⟨hx, hb, hml, hown, hts⟩ := id X
  have hl : lv_has ls 5 [(0, .ref m0), (1, .int (nI (130 * a))), (2, .int (nI k)), (3, .int 1), (4, .int x)] := hl
  have hinX7 : ∀ w ∈ u_ws RX7 TX7 12, w ∈ wsX7_adds := by decide +kernel
  refine lv_aload_n hx hb dX7_adds_0 rfl (lv_at hl 0 rfl) ?_
  refine va_get (D := D) (ci := 7) (v := .ref m1) (C := RX7) (T := TX7) (N := 12) hx hb hts hinX7 hown hK hP 0 rfl rfl 1 (by decide) (hts (.fieldLink RX7 7 "RibbonBalloonsModel" "s" "[I") (by decide +kernel)) (fun _ h9 => h9) rfl dX7_adds_1 ?_
  refine lv_iload_n hx hb dX7_adds_4 rfl (lv_at hl 1 rfl) ?_
  refine lv_bipush (v := 9) hx hb dX7_adds_5 (by decide) ?_
  refine lv_iadd hx hb dX7_adds_7 ?_
  refine lv_eqi (y := nI ((130 * a) + 9)) (nI_add _ _) ?_
  refine lv_iconst (v := 5) hx hb dX7_adds_8 (by decide) ?_
  refine lv_iload_n hx hb dX7_adds_9 rfl (lv_at hl 2 rfl) ?_
  refine lv_imul hx hb dX7_adds_10 ?_
  refine lv_eqi (y := nI (5 * k)) (pk_mul _ _) ?_
  refine lv_iadd hx hb dX7_adds_11 ?_
  refine lv_eqi (y := nI (((130 * a) + 9) + (5 * k))) (nI_add _ _) ?_
  refine lv_iload_n hx hb dX7_adds_12 rfl (lv_at hl 3 rfl) ?_
  refine lv_iadd hx hb dX7_adds_13 ?_
  refine lv_eqi (y := nI ((((130 * a) + 9) + (5 * k)) + 1)) (nI_add _ _) ?_
  refine lv_dup2_11 hx hb dX7_adds_14 rfl rfl ?_
  refine r_iald hx hb hK hP 1 0 ((((130 * a) + 9) + (5 * k)) + 1) (f := enc B) rfl rfl (by omega) (by omega) dX7_adds_15 ?_
  refine lv_iload hx hb dX7_adds_16 (lv_at hl 4 rfl) ?_
  refine lv_iadd hx hb dX7_adds_18 ?_
  refine r_iast hx hb hK hP hD hS 1 0 ((((130 * a) + 9) + (5 * k)) + 1) (f := enc B) (x := ((enc B) ((((130 * a) + 9) + (5 * k)) + 1)) + x) (wn := List.flatten [mdO m0 m1 m2 m3 th sv kp ln ca lt fi sd hs, arC cI m1 1170 (upd (enc B) ((((130 * a) + 9) + (5 * k)) + 1) (((enc B) ((((130 * a) + 9) + (5 * k)) + 1)) + x)), arC cI m2 60 T, arC cI m3 8 h]) rfl rfl (by omega) (by omega) rfl dX7_adds_19 (fun H locs hP hD hS => ?_)
  obtain ⟨hP, hD⟩ := PD_cg hP hD 1 (enc (uA B a (u2 (B a) 1 k ((B a 1 k) + x)))) rfl (fun j _ => by rw [enc_b B (w := 1) hk8 (by decide)]; exact congrFun (enc_ub B (w := 1) hk8 (by decide) _) j) (wn := List.flatten [mdO m0 m1 m2 m3 th sv kp ln ca lt fi sd hs, arC cI m1 1170 (enc (uA B a (u2 (B a) 1 k ((B a 1 k) + x)))), arC cI m2 60 T, arC cI m3 8 h]) rfl
  exact hend _ _ _ _ hP hD hS dX7_adds_20

set_option maxHeartbeats 4000000 in
set_option maxRecDepth 100000 in
theorem c_X7_of2 (l : Launch) (D : va_G) (cI cZ cS cJ : ClassId) (m0 : Nat) (m1 : Nat) (m2 : Nat) (m3 : Nat) (th : Int32) (sv : Int32) (kp : Int32) (ln : Int32) (ca : Int32) (lt : Int32) (fi : Int32) (sd : Int32) (hs : Int64) (B : Nat → Nat → Nat → Int32) (T : Nat → Int32) (h : Nat → Int32) (a : Nat) (k : Nat) (ha : a ≤ 8) (hk8 : k < 8) : C0 l yX7_of wsX7_of ({ frames := 0, cells := 0, slots := 0, locals := 0 }) D (tyL cI cZ cS cJ) [.ref m0, .int (nI (130 * a)), .int (nI k), .int 2] (List.flatten [mdO m0 m1 m2 m3 th sv kp ln ca lt fi sd hs, arC cI m1 1170 (enc B), arC cI m2 60 T, arC cI m3 8 h]) (some (.int (B a 2 k))) (List.flatten [mdO m0 m1 m2 m3 th sv kp ln ca lt fi sd hs, arC cI m1 1170 (enc B), arC cI m2 60 T, arC cI m3 8 h]) 0 0 := by
  refine C0_int (cc := cX7_of) (maxL := 4) (rt := .int) (by decide) rfl (Nat.le_of_ble_eq_true rfl) (rfl) ?_
  intro p e s m below meth c A ls Q X hK hP hD hS hA hl hend
  have X : CallFix p m c cX7_of 4 s ([.ref m0, .int (nI (130 * a)), .int (nI k), .int 2] : List Value).toArray wsX7_of RX7 := X
  obtain ⟨hx, hb, hml, hown, hts⟩ := id X
  have hl : lv_has ls 4 [(0, .ref m0), (1, .int (nI (130 * a))), (2, .int (nI k)), (3, .int 2)] := hl
  have hinX7 : ∀ w ∈ u_ws RX7 TX7 12, w ∈ wsX7_of := by decide +kernel
  refine lv_aload_n hx hb dX7_of_0 rfl (lv_at hl 0 rfl) ?_
  refine va_get (D := D) (ci := 7) (v := .ref m1) (C := RX7) (T := TX7) (N := 12) hx hb hts hinX7 hown hK hP 0 rfl rfl 1 (by decide) (hts (.fieldLink RX7 7 "RibbonBalloonsModel" "s" "[I") (by decide +kernel)) (fun _ h9 => h9) rfl dX7_of_1 ?_
  refine lv_iload_n hx hb dX7_of_4 rfl (lv_at hl 1 rfl) ?_
  refine lv_bipush (v := 9) hx hb dX7_of_5 (by decide) ?_
  refine lv_iadd hx hb dX7_of_7 ?_
  refine lv_eqi (y := nI ((130 * a) + 9)) (nI_add _ _) ?_
  refine lv_iconst (v := 5) hx hb dX7_of_8 (by decide) ?_
  refine lv_iload_n hx hb dX7_of_9 rfl (lv_at hl 2 rfl) ?_
  refine lv_imul hx hb dX7_of_10 ?_
  refine lv_eqi (y := nI (5 * k)) (pk_mul _ _) ?_
  refine lv_iadd hx hb dX7_of_11 ?_
  refine lv_eqi (y := nI (((130 * a) + 9) + (5 * k))) (nI_add _ _) ?_
  refine lv_iload_n hx hb dX7_of_12 rfl (lv_at hl 3 rfl) ?_
  refine lv_iadd hx hb dX7_of_13 ?_
  refine lv_eqi (y := nI ((((130 * a) + 9) + (5 * k)) + 2)) (nI_add _ _) ?_
  refine r_iald hx hb hK hP 1 0 ((((130 * a) + 9) + (5 * k)) + 2) (f := enc B) rfl rfl (by omega) (by omega) dX7_of_14 ?_
  refine hend _ _ _ _ _ ?_ hP hD hS dX7_of_15
  exact enc_b B (w := 2) hk8 (by decide)

set_option maxHeartbeats 4000000 in
set_option maxRecDepth 100000 in
theorem c_X7_adds2 (l : Launch) (D : va_G) (cI cZ cS cJ : ClassId) (m0 : Nat) (m1 : Nat) (m2 : Nat) (m3 : Nat) (th : Int32) (sv : Int32) (kp : Int32) (ln : Int32) (ca : Int32) (lt : Int32) (fi : Int32) (sd : Int32) (hs : Int64) (B : Nat → Nat → Nat → Int32) (T : Nat → Int32) (h : Nat → Int32) (a : Nat) (k : Nat) (x : Int32) (ha : a ≤ 8) (hk8 : k < 8) : C0 l yX7_adds wsX7_adds ({ frames := 0, cells := 0, slots := 0, locals := 0 }) D (tyL cI cZ cS cJ) [.ref m0, .int (nI (130 * a)), .int (nI k), .int 2, .int x] (List.flatten [mdO m0 m1 m2 m3 th sv kp ln ca lt fi sd hs, arC cI m1 1170 (enc B), arC cI m2 60 T, arC cI m3 8 h]) none (List.flatten [mdO m0 m1 m2 m3 th sv kp ln ca lt fi sd hs, arC cI m1 1170 (enc (uA B a (u2 (B a) 2 k ((B a 2 k) + x)))), arC cI m2 60 T, arC cI m3 8 h]) 0 0 := by
  refine C0_void (cc := cX7_adds) (maxL := 5) (by decide) rfl (Nat.le_of_ble_eq_true rfl) ?_
  intro p e s m below meth c A ls Q X hnm hK hP hD hS hA hl hend
  have X : CallFix p m c cX7_adds 5 s ([.ref m0, .int (nI (130 * a)), .int (nI k), .int 2, .int x] : List Value).toArray wsX7_adds RX7 := X
  obtain ⟨hx, hb, hml, hown, hts⟩ := id X
  have hl : lv_has ls 5 [(0, .ref m0), (1, .int (nI (130 * a))), (2, .int (nI k)), (3, .int 2), (4, .int x)] := hl
  have hinX7 : ∀ w ∈ u_ws RX7 TX7 12, w ∈ wsX7_adds := by decide +kernel
  refine lv_aload_n hx hb dX7_adds_0 rfl (lv_at hl 0 rfl) ?_
  refine va_get (D := D) (ci := 7) (v := .ref m1) (C := RX7) (T := TX7) (N := 12) hx hb hts hinX7 hown hK hP 0 rfl rfl 1 (by decide) (hts (.fieldLink RX7 7 "RibbonBalloonsModel" "s" "[I") (by decide +kernel)) (fun _ h9 => h9) rfl dX7_adds_1 ?_
  refine lv_iload_n hx hb dX7_adds_4 rfl (lv_at hl 1 rfl) ?_
  refine lv_bipush (v := 9) hx hb dX7_adds_5 (by decide) ?_
  refine lv_iadd hx hb dX7_adds_7 ?_
  refine lv_eqi (y := nI ((130 * a) + 9)) (nI_add _ _) ?_
  refine lv_iconst (v := 5) hx hb dX7_adds_8 (by decide) ?_
  refine lv_iload_n hx hb dX7_adds_9 rfl (lv_at hl 2 rfl) ?_
  refine lv_imul hx hb dX7_adds_10 ?_
  refine lv_eqi (y := nI (5 * k)) (pk_mul _ _) ?_
  refine lv_iadd hx hb dX7_adds_11 ?_
  refine lv_eqi (y := nI (((130 * a) + 9) + (5 * k))) (nI_add _ _) ?_
  refine lv_iload_n hx hb dX7_adds_12 rfl (lv_at hl 3 rfl) ?_
  refine lv_iadd hx hb dX7_adds_13 ?_
  refine lv_eqi (y := nI ((((130 * a) + 9) + (5 * k)) + 2)) (nI_add _ _) ?_
  refine lv_dup2_11 hx hb dX7_adds_14 rfl rfl ?_
  refine r_iald hx hb hK hP 1 0 ((((130 * a) + 9) + (5 * k)) + 2) (f := enc B) rfl rfl (by omega) (by omega) dX7_adds_15 ?_
  refine lv_iload hx hb dX7_adds_16 (lv_at hl 4 rfl) ?_
  refine lv_iadd hx hb dX7_adds_18 ?_
  refine r_iast hx hb hK hP hD hS 1 0 ((((130 * a) + 9) + (5 * k)) + 2) (f := enc B) (x := ((enc B) ((((130 * a) + 9) + (5 * k)) + 2)) + x) (wn := List.flatten [mdO m0 m1 m2 m3 th sv kp ln ca lt fi sd hs, arC cI m1 1170 (upd (enc B) ((((130 * a) + 9) + (5 * k)) + 2) (((enc B) ((((130 * a) + 9) + (5 * k)) + 2)) + x)), arC cI m2 60 T, arC cI m3 8 h]) rfl rfl (by omega) (by omega) rfl dX7_adds_19 (fun H locs hP hD hS => ?_)
  obtain ⟨hP, hD⟩ := PD_cg hP hD 1 (enc (uA B a (u2 (B a) 2 k ((B a 2 k) + x)))) rfl (fun j _ => by rw [enc_b B (w := 2) hk8 (by decide)]; exact congrFun (enc_ub B (w := 2) hk8 (by decide) _) j) (wn := List.flatten [mdO m0 m1 m2 m3 th sv kp ln ca lt fi sd hs, arC cI m1 1170 (enc (uA B a (u2 (B a) 2 k ((B a 2 k) + x)))), arC cI m2 60 T, arC cI m3 8 h]) rfl
  exact hend _ _ _ _ hP hD hS dX7_adds_20

set_option maxHeartbeats 4000000 in
set_option maxRecDepth 100000 in
theorem c_X7_of3 (l : Launch) (D : va_G) (cI cZ cS cJ : ClassId) (m0 : Nat) (m1 : Nat) (m2 : Nat) (m3 : Nat) (th : Int32) (sv : Int32) (kp : Int32) (ln : Int32) (ca : Int32) (lt : Int32) (fi : Int32) (sd : Int32) (hs : Int64) (B : Nat → Nat → Nat → Int32) (T : Nat → Int32) (h : Nat → Int32) (a : Nat) (k : Nat) (ha : a ≤ 8) (hk8 : k < 8) : C0 l yX7_of wsX7_of ({ frames := 0, cells := 0, slots := 0, locals := 0 }) D (tyL cI cZ cS cJ) [.ref m0, .int (nI (130 * a)), .int (nI k), .int 3] (List.flatten [mdO m0 m1 m2 m3 th sv kp ln ca lt fi sd hs, arC cI m1 1170 (enc B), arC cI m2 60 T, arC cI m3 8 h]) (some (.int (B a 10 k))) (List.flatten [mdO m0 m1 m2 m3 th sv kp ln ca lt fi sd hs, arC cI m1 1170 (enc B), arC cI m2 60 T, arC cI m3 8 h]) 0 0 := by
  refine C0_int (cc := cX7_of) (maxL := 4) (rt := .int) (by decide) rfl (Nat.le_of_ble_eq_true rfl) (rfl) ?_
  intro p e s m below meth c A ls Q X hK hP hD hS hA hl hend
  have X : CallFix p m c cX7_of 4 s ([.ref m0, .int (nI (130 * a)), .int (nI k), .int 3] : List Value).toArray wsX7_of RX7 := X
  obtain ⟨hx, hb, hml, hown, hts⟩ := id X
  have hl : lv_has ls 4 [(0, .ref m0), (1, .int (nI (130 * a))), (2, .int (nI k)), (3, .int 3)] := hl
  have hinX7 : ∀ w ∈ u_ws RX7 TX7 12, w ∈ wsX7_of := by decide +kernel
  refine lv_aload_n hx hb dX7_of_0 rfl (lv_at hl 0 rfl) ?_
  refine va_get (D := D) (ci := 7) (v := .ref m1) (C := RX7) (T := TX7) (N := 12) hx hb hts hinX7 hown hK hP 0 rfl rfl 1 (by decide) (hts (.fieldLink RX7 7 "RibbonBalloonsModel" "s" "[I") (by decide +kernel)) (fun _ h9 => h9) rfl dX7_of_1 ?_
  refine lv_iload_n hx hb dX7_of_4 rfl (lv_at hl 1 rfl) ?_
  refine lv_bipush (v := 9) hx hb dX7_of_5 (by decide) ?_
  refine lv_iadd hx hb dX7_of_7 ?_
  refine lv_eqi (y := nI ((130 * a) + 9)) (nI_add _ _) ?_
  refine lv_iconst (v := 5) hx hb dX7_of_8 (by decide) ?_
  refine lv_iload_n hx hb dX7_of_9 rfl (lv_at hl 2 rfl) ?_
  refine lv_imul hx hb dX7_of_10 ?_
  refine lv_eqi (y := nI (5 * k)) (pk_mul _ _) ?_
  refine lv_iadd hx hb dX7_of_11 ?_
  refine lv_eqi (y := nI (((130 * a) + 9) + (5 * k))) (nI_add _ _) ?_
  refine lv_iload_n hx hb dX7_of_12 rfl (lv_at hl 3 rfl) ?_
  refine lv_iadd hx hb dX7_of_13 ?_
  refine lv_eqi (y := nI ((((130 * a) + 9) + (5 * k)) + 3)) (nI_add _ _) ?_
  refine r_iald hx hb hK hP 1 0 ((((130 * a) + 9) + (5 * k)) + 3) (f := enc B) rfl rfl (by omega) (by omega) dX7_of_14 ?_
  refine hend _ _ _ _ _ ?_ hP hD hS dX7_of_15
  exact enc_b B (w := 3) hk8 (by decide)

set_option maxHeartbeats 4000000 in
set_option maxRecDepth 100000 in
theorem c_X7_adds3 (l : Launch) (D : va_G) (cI cZ cS cJ : ClassId) (m0 : Nat) (m1 : Nat) (m2 : Nat) (m3 : Nat) (th : Int32) (sv : Int32) (kp : Int32) (ln : Int32) (ca : Int32) (lt : Int32) (fi : Int32) (sd : Int32) (hs : Int64) (B : Nat → Nat → Nat → Int32) (T : Nat → Int32) (h : Nat → Int32) (a : Nat) (k : Nat) (x : Int32) (ha : a ≤ 8) (hk8 : k < 8) : C0 l yX7_adds wsX7_adds ({ frames := 0, cells := 0, slots := 0, locals := 0 }) D (tyL cI cZ cS cJ) [.ref m0, .int (nI (130 * a)), .int (nI k), .int 3, .int x] (List.flatten [mdO m0 m1 m2 m3 th sv kp ln ca lt fi sd hs, arC cI m1 1170 (enc B), arC cI m2 60 T, arC cI m3 8 h]) none (List.flatten [mdO m0 m1 m2 m3 th sv kp ln ca lt fi sd hs, arC cI m1 1170 (enc (uA B a (u2 (B a) 10 k ((B a 10 k) + x)))), arC cI m2 60 T, arC cI m3 8 h]) 0 0 := by
  refine C0_void (cc := cX7_adds) (maxL := 5) (by decide) rfl (Nat.le_of_ble_eq_true rfl) ?_
  intro p e s m below meth c A ls Q X hnm hK hP hD hS hA hl hend
  have X : CallFix p m c cX7_adds 5 s ([.ref m0, .int (nI (130 * a)), .int (nI k), .int 3, .int x] : List Value).toArray wsX7_adds RX7 := X
  obtain ⟨hx, hb, hml, hown, hts⟩ := id X
  have hl : lv_has ls 5 [(0, .ref m0), (1, .int (nI (130 * a))), (2, .int (nI k)), (3, .int 3), (4, .int x)] := hl
  have hinX7 : ∀ w ∈ u_ws RX7 TX7 12, w ∈ wsX7_adds := by decide +kernel
  refine lv_aload_n hx hb dX7_adds_0 rfl (lv_at hl 0 rfl) ?_
  refine va_get (D := D) (ci := 7) (v := .ref m1) (C := RX7) (T := TX7) (N := 12) hx hb hts hinX7 hown hK hP 0 rfl rfl 1 (by decide) (hts (.fieldLink RX7 7 "RibbonBalloonsModel" "s" "[I") (by decide +kernel)) (fun _ h9 => h9) rfl dX7_adds_1 ?_
  refine lv_iload_n hx hb dX7_adds_4 rfl (lv_at hl 1 rfl) ?_
  refine lv_bipush (v := 9) hx hb dX7_adds_5 (by decide) ?_
  refine lv_iadd hx hb dX7_adds_7 ?_
  refine lv_eqi (y := nI ((130 * a) + 9)) (nI_add _ _) ?_
  refine lv_iconst (v := 5) hx hb dX7_adds_8 (by decide) ?_
  refine lv_iload_n hx hb dX7_adds_9 rfl (lv_at hl 2 rfl) ?_
  refine lv_imul hx hb dX7_adds_10 ?_
  refine lv_eqi (y := nI (5 * k)) (pk_mul _ _) ?_
  refine lv_iadd hx hb dX7_adds_11 ?_
  refine lv_eqi (y := nI (((130 * a) + 9) + (5 * k))) (nI_add _ _) ?_
  refine lv_iload_n hx hb dX7_adds_12 rfl (lv_at hl 3 rfl) ?_
  refine lv_iadd hx hb dX7_adds_13 ?_
  refine lv_eqi (y := nI ((((130 * a) + 9) + (5 * k)) + 3)) (nI_add _ _) ?_
  refine lv_dup2_11 hx hb dX7_adds_14 rfl rfl ?_
  refine r_iald hx hb hK hP 1 0 ((((130 * a) + 9) + (5 * k)) + 3) (f := enc B) rfl rfl (by omega) (by omega) dX7_adds_15 ?_
  refine lv_iload hx hb dX7_adds_16 (lv_at hl 4 rfl) ?_
  refine lv_iadd hx hb dX7_adds_18 ?_
  refine r_iast hx hb hK hP hD hS 1 0 ((((130 * a) + 9) + (5 * k)) + 3) (f := enc B) (x := ((enc B) ((((130 * a) + 9) + (5 * k)) + 3)) + x) (wn := List.flatten [mdO m0 m1 m2 m3 th sv kp ln ca lt fi sd hs, arC cI m1 1170 (upd (enc B) ((((130 * a) + 9) + (5 * k)) + 3) (((enc B) ((((130 * a) + 9) + (5 * k)) + 3)) + x)), arC cI m2 60 T, arC cI m3 8 h]) rfl rfl (by omega) (by omega) rfl dX7_adds_19 (fun H locs hP hD hS => ?_)
  obtain ⟨hP, hD⟩ := PD_cg hP hD 1 (enc (uA B a (u2 (B a) 10 k ((B a 10 k) + x)))) rfl (fun j _ => by rw [enc_b B (w := 3) hk8 (by decide)]; exact congrFun (enc_ub B (w := 3) hk8 (by decide) _) j) (wn := List.flatten [mdO m0 m1 m2 m3 th sv kp ln ca lt fi sd hs, arC cI m1 1170 (enc (uA B a (u2 (B a) 10 k ((B a 10 k) + x)))), arC cI m2 60 T, arC cI m3 8 h]) rfl
  exact hend _ _ _ _ hP hD hS dX7_adds_20

set_option maxHeartbeats 4000000 in
set_option maxRecDepth 100000 in
theorem c_X7_of4 (l : Launch) (D : va_G) (cI cZ cS cJ : ClassId) (m0 : Nat) (m1 : Nat) (m2 : Nat) (m3 : Nat) (th : Int32) (sv : Int32) (kp : Int32) (ln : Int32) (ca : Int32) (lt : Int32) (fi : Int32) (sd : Int32) (hs : Int64) (B : Nat → Nat → Nat → Int32) (T : Nat → Int32) (h : Nat → Int32) (a : Nat) (k : Nat) (ha : a ≤ 8) (hk8 : k < 8) : C0 l yX7_of wsX7_of ({ frames := 0, cells := 0, slots := 0, locals := 0 }) D (tyL cI cZ cS cJ) [.ref m0, .int (nI (130 * a)), .int (nI k), .int 4] (List.flatten [mdO m0 m1 m2 m3 th sv kp ln ca lt fi sd hs, arC cI m1 1170 (enc B), arC cI m2 60 T, arC cI m3 8 h]) (some (.int (B a 11 k))) (List.flatten [mdO m0 m1 m2 m3 th sv kp ln ca lt fi sd hs, arC cI m1 1170 (enc B), arC cI m2 60 T, arC cI m3 8 h]) 0 0 := by
  refine C0_int (cc := cX7_of) (maxL := 4) (rt := .int) (by decide) rfl (Nat.le_of_ble_eq_true rfl) (rfl) ?_
  intro p e s m below meth c A ls Q X hK hP hD hS hA hl hend
  have X : CallFix p m c cX7_of 4 s ([.ref m0, .int (nI (130 * a)), .int (nI k), .int 4] : List Value).toArray wsX7_of RX7 := X
  obtain ⟨hx, hb, hml, hown, hts⟩ := id X
  have hl : lv_has ls 4 [(0, .ref m0), (1, .int (nI (130 * a))), (2, .int (nI k)), (3, .int 4)] := hl
  have hinX7 : ∀ w ∈ u_ws RX7 TX7 12, w ∈ wsX7_of := by decide +kernel
  refine lv_aload_n hx hb dX7_of_0 rfl (lv_at hl 0 rfl) ?_
  refine va_get (D := D) (ci := 7) (v := .ref m1) (C := RX7) (T := TX7) (N := 12) hx hb hts hinX7 hown hK hP 0 rfl rfl 1 (by decide) (hts (.fieldLink RX7 7 "RibbonBalloonsModel" "s" "[I") (by decide +kernel)) (fun _ h9 => h9) rfl dX7_of_1 ?_
  refine lv_iload_n hx hb dX7_of_4 rfl (lv_at hl 1 rfl) ?_
  refine lv_bipush (v := 9) hx hb dX7_of_5 (by decide) ?_
  refine lv_iadd hx hb dX7_of_7 ?_
  refine lv_eqi (y := nI ((130 * a) + 9)) (nI_add _ _) ?_
  refine lv_iconst (v := 5) hx hb dX7_of_8 (by decide) ?_
  refine lv_iload_n hx hb dX7_of_9 rfl (lv_at hl 2 rfl) ?_
  refine lv_imul hx hb dX7_of_10 ?_
  refine lv_eqi (y := nI (5 * k)) (pk_mul _ _) ?_
  refine lv_iadd hx hb dX7_of_11 ?_
  refine lv_eqi (y := nI (((130 * a) + 9) + (5 * k))) (nI_add _ _) ?_
  refine lv_iload_n hx hb dX7_of_12 rfl (lv_at hl 3 rfl) ?_
  refine lv_iadd hx hb dX7_of_13 ?_
  refine lv_eqi (y := nI ((((130 * a) + 9) + (5 * k)) + 4)) (nI_add _ _) ?_
  refine r_iald hx hb hK hP 1 0 ((((130 * a) + 9) + (5 * k)) + 4) (f := enc B) rfl rfl (by omega) (by omega) dX7_of_14 ?_
  refine hend _ _ _ _ _ ?_ hP hD hS dX7_of_15
  exact enc_b B (w := 4) hk8 (by decide)

set_option maxHeartbeats 4000000 in
set_option maxRecDepth 100000 in
theorem c_X7_adds4 (l : Launch) (D : va_G) (cI cZ cS cJ : ClassId) (m0 : Nat) (m1 : Nat) (m2 : Nat) (m3 : Nat) (th : Int32) (sv : Int32) (kp : Int32) (ln : Int32) (ca : Int32) (lt : Int32) (fi : Int32) (sd : Int32) (hs : Int64) (B : Nat → Nat → Nat → Int32) (T : Nat → Int32) (h : Nat → Int32) (a : Nat) (k : Nat) (x : Int32) (ha : a ≤ 8) (hk8 : k < 8) : C0 l yX7_adds wsX7_adds ({ frames := 0, cells := 0, slots := 0, locals := 0 }) D (tyL cI cZ cS cJ) [.ref m0, .int (nI (130 * a)), .int (nI k), .int 4, .int x] (List.flatten [mdO m0 m1 m2 m3 th sv kp ln ca lt fi sd hs, arC cI m1 1170 (enc B), arC cI m2 60 T, arC cI m3 8 h]) none (List.flatten [mdO m0 m1 m2 m3 th sv kp ln ca lt fi sd hs, arC cI m1 1170 (enc (uA B a (u2 (B a) 11 k ((B a 11 k) + x)))), arC cI m2 60 T, arC cI m3 8 h]) 0 0 := by
  refine C0_void (cc := cX7_adds) (maxL := 5) (by decide) rfl (Nat.le_of_ble_eq_true rfl) ?_
  intro p e s m below meth c A ls Q X hnm hK hP hD hS hA hl hend
  have X : CallFix p m c cX7_adds 5 s ([.ref m0, .int (nI (130 * a)), .int (nI k), .int 4, .int x] : List Value).toArray wsX7_adds RX7 := X
  obtain ⟨hx, hb, hml, hown, hts⟩ := id X
  have hl : lv_has ls 5 [(0, .ref m0), (1, .int (nI (130 * a))), (2, .int (nI k)), (3, .int 4), (4, .int x)] := hl
  have hinX7 : ∀ w ∈ u_ws RX7 TX7 12, w ∈ wsX7_adds := by decide +kernel
  refine lv_aload_n hx hb dX7_adds_0 rfl (lv_at hl 0 rfl) ?_
  refine va_get (D := D) (ci := 7) (v := .ref m1) (C := RX7) (T := TX7) (N := 12) hx hb hts hinX7 hown hK hP 0 rfl rfl 1 (by decide) (hts (.fieldLink RX7 7 "RibbonBalloonsModel" "s" "[I") (by decide +kernel)) (fun _ h9 => h9) rfl dX7_adds_1 ?_
  refine lv_iload_n hx hb dX7_adds_4 rfl (lv_at hl 1 rfl) ?_
  refine lv_bipush (v := 9) hx hb dX7_adds_5 (by decide) ?_
  refine lv_iadd hx hb dX7_adds_7 ?_
  refine lv_eqi (y := nI ((130 * a) + 9)) (nI_add _ _) ?_
  refine lv_iconst (v := 5) hx hb dX7_adds_8 (by decide) ?_
  refine lv_iload_n hx hb dX7_adds_9 rfl (lv_at hl 2 rfl) ?_
  refine lv_imul hx hb dX7_adds_10 ?_
  refine lv_eqi (y := nI (5 * k)) (pk_mul _ _) ?_
  refine lv_iadd hx hb dX7_adds_11 ?_
  refine lv_eqi (y := nI (((130 * a) + 9) + (5 * k))) (nI_add _ _) ?_
  refine lv_iload_n hx hb dX7_adds_12 rfl (lv_at hl 3 rfl) ?_
  refine lv_iadd hx hb dX7_adds_13 ?_
  refine lv_eqi (y := nI ((((130 * a) + 9) + (5 * k)) + 4)) (nI_add _ _) ?_
  refine lv_dup2_11 hx hb dX7_adds_14 rfl rfl ?_
  refine r_iald hx hb hK hP 1 0 ((((130 * a) + 9) + (5 * k)) + 4) (f := enc B) rfl rfl (by omega) (by omega) dX7_adds_15 ?_
  refine lv_iload hx hb dX7_adds_16 (lv_at hl 4 rfl) ?_
  refine lv_iadd hx hb dX7_adds_18 ?_
  refine r_iast hx hb hK hP hD hS 1 0 ((((130 * a) + 9) + (5 * k)) + 4) (f := enc B) (x := ((enc B) ((((130 * a) + 9) + (5 * k)) + 4)) + x) (wn := List.flatten [mdO m0 m1 m2 m3 th sv kp ln ca lt fi sd hs, arC cI m1 1170 (upd (enc B) ((((130 * a) + 9) + (5 * k)) + 4) (((enc B) ((((130 * a) + 9) + (5 * k)) + 4)) + x)), arC cI m2 60 T, arC cI m3 8 h]) rfl rfl (by omega) (by omega) rfl dX7_adds_19 (fun H locs hP hD hS => ?_)
  obtain ⟨hP, hD⟩ := PD_cg hP hD 1 (enc (uA B a (u2 (B a) 11 k ((B a 11 k) + x)))) rfl (fun j _ => by rw [enc_b B (w := 4) hk8 (by decide)]; exact congrFun (enc_ub B (w := 4) hk8 (by decide) _) j) (wn := List.flatten [mdO m0 m1 m2 m3 th sv kp ln ca lt fi sd hs, arC cI m1 1170 (enc (uA B a (u2 (B a) 11 k ((B a 11 k) + x)))), arC cI m2 60 T, arC cI m3 8 h]) rfl
  exact hend _ _ _ _ hP hD hS dX7_adds_20

set_option maxHeartbeats 4000000 in
set_option maxRecDepth 100000 in
theorem c_X7_isTied (l : Launch) (D : va_G) (cI cZ cS cJ : ClassId) (m0 : Nat) (m1 : Nat) (m2 : Nat) (m3 : Nat) (th : Int32) (sv : Int32) (kp : Int32) (ln : Int32) (ca : Int32) (lt : Int32) (fi : Int32) (sd : Int32) (hs : Int64) (B : Nat → Nat → Nat → Int32) (T : Nat → Int32) (h : Nat → Int32) (a : Nat) (r : Nat) (ha : a ≤ 8) (hr7 : r < 7) (hT : ∀ r, r < 7 → B a 3 r = 0 ∨ B a 3 r = 1) : C0 l yX7_isTied wsX7_isTied ({ frames := 0, cells := 0, slots := 0, locals := 0 }) D (tyL cI cZ cS cJ) [.ref m0, .int (nI (130 * a)), .int (nI r)] (List.flatten [mdO m0 m1 m2 m3 th sv kp ln ca lt fi sd hs, arC cI m1 1170 (enc B), arC cI m2 60 T, arC cI m3 8 h]) (some (.int (b1 (¬ B a 3 r = 0)))) (List.flatten [mdO m0 m1 m2 m3 th sv kp ln ca lt fi sd hs, arC cI m1 1170 (enc B), arC cI m2 60 T, arC cI m3 8 h]) 0 0 := by
  refine C0_int (cc := cX7_isTied) (maxL := 3) (rt := .boolean) (by decide) rfl (Nat.le_of_ble_eq_true rfl) (nar_b1 _) ?_
  intro p e s m below meth c A ls Q X hK hP hD hS hA hl hend
  have X : CallFix p m c cX7_isTied 3 s ([.ref m0, .int (nI (130 * a)), .int (nI r)] : List Value).toArray wsX7_isTied RX7 := X
  obtain ⟨hx, hb, hml, hown, hts⟩ := id X
  have hl : lv_has ls 3 [(0, .ref m0), (1, .int (nI (130 * a))), (2, .int (nI r))] := hl
  have hinX7 : ∀ w ∈ u_ws RX7 TX7 12, w ∈ wsX7_isTied := by decide +kernel
  refine lv_aload_n hx hb dX7_isTied_0 rfl (lv_at hl 0 rfl) ?_
  refine va_get (D := D) (ci := 7) (v := .ref m1) (C := RX7) (T := TX7) (N := 12) hx hb hts hinX7 hown hK hP 0 rfl rfl 1 (by decide) (hts (.fieldLink RX7 7 "RibbonBalloonsModel" "s" "[I") (by decide +kernel)) (fun _ h9 => h9) rfl dX7_isTied_1 ?_
  refine lv_iload_n hx hb dX7_isTied_4 rfl (lv_at hl 1 rfl) ?_
  refine lv_bipush (v := 49) hx hb dX7_isTied_5 (by decide) ?_
  refine lv_iadd hx hb dX7_isTied_7 ?_
  refine lv_eqi (y := nI ((130 * a) + 49)) (nI_add _ _) ?_
  refine lv_iconst (v := 3) hx hb dX7_isTied_8 (by decide) ?_
  refine lv_iload_n hx hb dX7_isTied_9 rfl (lv_at hl 2 rfl) ?_
  refine lv_imul hx hb dX7_isTied_10 ?_
  refine lv_eqi (y := nI (3 * r)) (pk_mul _ _) ?_
  refine lv_iadd hx hb dX7_isTied_11 ?_
  refine lv_eqi (y := nI (((130 * a) + 49) + (3 * r))) (nI_add _ _) ?_
  refine r_iald hx hb hK hP 1 0 (((130 * a) + 49) + (3 * r)) (f := enc B) rfl rfl (by omega) (by omega) dX7_isTied_12 ?_
  refine lv_eqi (y := B a 3 r) (enc_r B (w := 0) hr7 (by decide)) ?_
  refine lv_iconst (v := 1) hx hb dX7_isTied_13 (by decide) ?_
  refine lv_icmp_ne (tgt := 21) hx hb dX7_isTied_14 (by decide) (fun c14 => ?_) (fun c14 => ?_)
  · skip
    refine lv_iconst (v := 0) hx hb dX7_isTied_21 (by decide) ?_
    refine hend _ _ _ _ _ ?_ hP hD hS dX7_isTied_22
    first | exact tie_1 c14 | exact tie_0 (hT r hr7) c14
  · skip
    refine lv_iconst (v := 1) hx hb dX7_isTied_17 (by decide) ?_
    refine lv_goto (tgt := 22) hx hb dX7_isTied_18 (by decide) ?_
    refine hend _ _ _ _ _ ?_ hP hD hS dX7_isTied_22
    first | exact tie_1 c14 | exact tie_0 (hT r hr7) c14

set_option maxHeartbeats 4000000 in
set_option maxRecDepth 100000 in
theorem c_X7_long1 (l : Launch) (D : va_G) (cI cZ cS cJ : ClassId) (m0 : Nat) (m1 : Nat) (m2 : Nat) (m3 : Nat) (th : Int32) (sv : Int32) (kp : Int32) (ln : Int32) (ca : Int32) (lt : Int32) (fi : Int32) (sd : Int32) (hs : Int64) (B : Nat → Nat → Nat → Int32) (T : Nat → Int32) (h : Nat → Int32) (a : Nat) (r : Nat) (ha : a ≤ 8) (hr7 : r < 7) : C0 l yX7_long1 wsX7_long1 ({ frames := 0, cells := 0, slots := 0, locals := 0 }) D (tyL cI cZ cS cJ) [.ref m0, .int (nI (130 * a)), .int (nI r)] (List.flatten [mdO m0 m1 m2 m3 th sv kp ln ca lt fi sd hs, arC cI m1 1170 (enc B), arC cI m2 60 T, arC cI m3 8 h]) (some (.int (B a 4 r))) (List.flatten [mdO m0 m1 m2 m3 th sv kp ln ca lt fi sd hs, arC cI m1 1170 (enc B), arC cI m2 60 T, arC cI m3 8 h]) 0 0 := by
  refine C0_int (cc := cX7_long1) (maxL := 3) (rt := .int) (by decide) rfl (Nat.le_of_ble_eq_true rfl) (rfl) ?_
  intro p e s m below meth c A ls Q X hK hP hD hS hA hl hend
  have X : CallFix p m c cX7_long1 3 s ([.ref m0, .int (nI (130 * a)), .int (nI r)] : List Value).toArray wsX7_long1 RX7 := X
  obtain ⟨hx, hb, hml, hown, hts⟩ := id X
  have hl : lv_has ls 3 [(0, .ref m0), (1, .int (nI (130 * a))), (2, .int (nI r))] := hl
  have hinX7 : ∀ w ∈ u_ws RX7 TX7 12, w ∈ wsX7_long1 := by decide +kernel
  refine lv_aload_n hx hb dX7_long1_0 rfl (lv_at hl 0 rfl) ?_
  refine va_get (D := D) (ci := 7) (v := .ref m1) (C := RX7) (T := TX7) (N := 12) hx hb hts hinX7 hown hK hP 0 rfl rfl 1 (by decide) (hts (.fieldLink RX7 7 "RibbonBalloonsModel" "s" "[I") (by decide +kernel)) (fun _ h9 => h9) rfl dX7_long1_1 ?_
  refine lv_iload_n hx hb dX7_long1_4 rfl (lv_at hl 1 rfl) ?_
  refine lv_bipush (v := 49) hx hb dX7_long1_5 (by decide) ?_
  refine lv_iadd hx hb dX7_long1_7 ?_
  refine lv_eqi (y := nI ((130 * a) + 49)) (nI_add _ _) ?_
  refine lv_iconst (v := 3) hx hb dX7_long1_8 (by decide) ?_
  refine lv_iload_n hx hb dX7_long1_9 rfl (lv_at hl 2 rfl) ?_
  refine lv_imul hx hb dX7_long1_10 ?_
  refine lv_eqi (y := nI (3 * r)) (pk_mul _ _) ?_
  refine lv_iadd hx hb dX7_long1_11 ?_
  refine lv_eqi (y := nI (((130 * a) + 49) + (3 * r))) (nI_add _ _) ?_
  refine lv_iconst (v := 1) hx hb dX7_long1_12 (by decide) ?_
  refine lv_iadd hx hb dX7_long1_13 ?_
  refine lv_eqi (y := nI ((((130 * a) + 49) + (3 * r)) + 1)) (nI_add _ _) ?_
  refine r_iald hx hb hK hP 1 0 ((((130 * a) + 49) + (3 * r)) + 1) (f := enc B) rfl rfl (by omega) (by omega) dX7_long1_14 ?_
  refine hend _ _ _ _ _ ?_ hP hD hS dX7_long1_15
  exact enc_r B (w := 1) hr7 (by decide)

set_option maxHeartbeats 4000000 in
set_option maxRecDepth 100000 in
theorem c_X7_bears (l : Launch) (D : va_G) (cI cZ cS cJ : ClassId) (m0 : Nat) (m1 : Nat) (m2 : Nat) (m3 : Nat) (th : Int32) (sv : Int32) (kp : Int32) (ln : Int32) (ca : Int32) (lt : Int32) (fi : Int32) (sd : Int32) (hs : Int64) (B : Nat → Nat → Nat → Int32) (T : Nat → Int32) (h : Nat → Int32) (a : Nat) (r : Nat) (ha : a ≤ 8) (hr7 : r < 7) : C0 l yX7_bears wsX7_bears ({ frames := 0, cells := 0, slots := 0, locals := 0 }) D (tyL cI cZ cS cJ) [.ref m0, .int (nI (130 * a)), .int (nI r)] (List.flatten [mdO m0 m1 m2 m3 th sv kp ln ca lt fi sd hs, arC cI m1 1170 (enc B), arC cI m2 60 T, arC cI m3 8 h]) (some (.int (B a 5 r))) (List.flatten [mdO m0 m1 m2 m3 th sv kp ln ca lt fi sd hs, arC cI m1 1170 (enc B), arC cI m2 60 T, arC cI m3 8 h]) 0 0 := by
  refine C0_int (cc := cX7_bears) (maxL := 3) (rt := .int) (by decide) rfl (Nat.le_of_ble_eq_true rfl) (rfl) ?_
  intro p e s m below meth c A ls Q X hK hP hD hS hA hl hend
  have X : CallFix p m c cX7_bears 3 s ([.ref m0, .int (nI (130 * a)), .int (nI r)] : List Value).toArray wsX7_bears RX7 := X
  obtain ⟨hx, hb, hml, hown, hts⟩ := id X
  have hl : lv_has ls 3 [(0, .ref m0), (1, .int (nI (130 * a))), (2, .int (nI r))] := hl
  have hinX7 : ∀ w ∈ u_ws RX7 TX7 12, w ∈ wsX7_bears := by decide +kernel
  refine lv_aload_n hx hb dX7_bears_0 rfl (lv_at hl 0 rfl) ?_
  refine va_get (D := D) (ci := 7) (v := .ref m1) (C := RX7) (T := TX7) (N := 12) hx hb hts hinX7 hown hK hP 0 rfl rfl 1 (by decide) (hts (.fieldLink RX7 7 "RibbonBalloonsModel" "s" "[I") (by decide +kernel)) (fun _ h9 => h9) rfl dX7_bears_1 ?_
  refine lv_iload_n hx hb dX7_bears_4 rfl (lv_at hl 1 rfl) ?_
  refine lv_bipush (v := 49) hx hb dX7_bears_5 (by decide) ?_
  refine lv_iadd hx hb dX7_bears_7 ?_
  refine lv_eqi (y := nI ((130 * a) + 49)) (nI_add _ _) ?_
  refine lv_iconst (v := 3) hx hb dX7_bears_8 (by decide) ?_
  refine lv_iload_n hx hb dX7_bears_9 rfl (lv_at hl 2 rfl) ?_
  refine lv_imul hx hb dX7_bears_10 ?_
  refine lv_eqi (y := nI (3 * r)) (pk_mul _ _) ?_
  refine lv_iadd hx hb dX7_bears_11 ?_
  refine lv_eqi (y := nI (((130 * a) + 49) + (3 * r))) (nI_add _ _) ?_
  refine lv_iconst (v := 2) hx hb dX7_bears_12 (by decide) ?_
  refine lv_iadd hx hb dX7_bears_13 ?_
  refine lv_eqi (y := nI ((((130 * a) + 49) + (3 * r)) + 2)) (nI_add _ _) ?_
  refine r_iald hx hb hK hP 1 0 ((((130 * a) + 49) + (3 * r)) + 2) (f := enc B) rfl rfl (by omega) (by omega) dX7_bears_14 ?_
  refine hend _ _ _ _ _ ?_ hP hD hS dX7_bears_15
  exact enc_r B (w := 2) hr7 (by decide)

set_option maxHeartbeats 4000000 in
set_option maxRecDepth 100000 in
theorem c_X7_lift (l : Launch) (D : va_G) (cI cZ cS cJ : ClassId) (m0 : Nat) (m1 : Nat) (m2 : Nat) (m3 : Nat) (th : Int32) (sv : Int32) (kp : Int32) (ln : Int32) (ca : Int32) (lt : Int32) (fi : Int32) (sd : Int32) (hs : Int64) (B : Nat → Nat → Nat → Int32) (T : Nat → Int32) (h : Nat → Int32) (a : Nat) (k : Nat) (ha : a ≤ 8) (hk8 : k < 8) : C0 l yX7_lift wsX7_lift ({ frames := 1, cells := 0, slots := 0, locals := 23 }) D (tyL cI cZ cS cJ) [.ref m0, .int (nI (130 * a)), .int (nI k)] (List.flatten [mdO m0 m1 m2 m3 th sv kp ln ca lt fi sd hs, arC cI m1 1170 (enc B), arC cI m2 60 T, arC cI m3 8 h]) (some (.int (lift (B a) k))) (List.flatten [mdO m0 m1 m2 m3 th sv kp ln ca lt fi sd hs, arC cI m1 1170 (enc B), arC cI m2 60 T, arC cI m3 8 h]) 0 0 := by
  refine C0_int (cc := cX7_lift) (maxL := 3) (rt := .int) (by decide) rfl (Nat.le_of_ble_eq_true rfl) (rfl) ?_
  intro p e s m below meth c A ls Q X hK hP hD hS hA hl hend
  have X : CallFix p m c cX7_lift 3 s ([.ref m0, .int (nI (130 * a)), .int (nI k)] : List Value).toArray wsX7_lift RX7 := X
  obtain ⟨hx, hb, hml, hown, hts⟩ := id X
  have hl : lv_has ls 3 [(0, .ref m0), (1, .int (nI (130 * a))), (2, .int (nI k))] := hl
  refine lv_aload_n hx hb dX7_lift_0 rfl (lv_at hl 0 rfl) ?_
  refine lv_iload_n hx hb dX7_lift_1 rfl (lv_at hl 1 rfl) ?_
  refine lv_iload_n hx hb dX7_lift_2 rfl (lv_at hl 2 rfl) ?_
  refine lv_iconst (v := 0) hx hb dX7_lift_3 (by decide) ?_
  refine kcallV (As := [.int (nI (130 * a)), .int (nI k), .int 0]) (rest := []) (Wn := [mdO m0 m1 m2 m3 th sv kp ln ca lt fi sd hs, arC cI m1 1170 (enc B), arC cI m2 60 T, arC cI m3 8 h]) X (c_X7_of0 l D cI cZ cS cJ m0 m1 m2 m3 th sv kp ln ca lt fi sd hs B T h a k (by omega) (by omega)) (cwV 3 hts gX7_lift_X7_of rfl rfl rfl (by decide +kernel) ⟨Nat.le_of_ble_eq_true rfl, Nat.le_of_ble_eq_true rfl⟩) hK hP hD hS hA [0, 1, 2, 3] rfl (by decide +kernel) rfl rfl rfl 0 7 rfl rfl rfl hl.1 rfl (Nat.le_of_ble_eq_true rfl) dX7_lift_4 ⟨Nat.le_of_ble_eq_true rfl, Nat.le_of_ble_eq_true rfl⟩ (fun H locs hP hD hS => ?_)
  refine lv_bipush (v := 10) hx hb dX7_lift_7 (by decide) ?_
  refine lv_isub hx hb dX7_lift_9 ?_
  refine lv_iconst (v := 5) hx hb dX7_lift_10 (by decide) ?_
  refine lv_aload_n hx hb dX7_lift_11 rfl (lv_at hl 0 rfl) ?_
  refine lv_iload_n hx hb dX7_lift_12 rfl (lv_at hl 1 rfl) ?_
  refine lv_iload_n hx hb dX7_lift_13 rfl (lv_at hl 2 rfl) ?_
  refine lv_iconst (v := 1) hx hb dX7_lift_14 (by decide) ?_
  refine kcallV (As := [.int (nI (130 * a)), .int (nI k), .int 1]) (rest := [.int 5, .int ((B a 0 k) - 10)]) (Wn := [mdO m0 m1 m2 m3 th sv kp ln ca lt fi sd hs, arC cI m1 1170 (enc B), arC cI m2 60 T, arC cI m3 8 h]) X (c_X7_of1 l D cI cZ cS cJ m0 m1 m2 m3 th sv kp ln ca lt fi sd hs B T h a k (by omega) (by omega)) (cwV 3 hts gX7_lift_X7_of rfl rfl rfl (by decide +kernel) ⟨Nat.le_of_ble_eq_true rfl, Nat.le_of_ble_eq_true rfl⟩) hK hP hD hS hA [0, 1, 2, 3] rfl (by decide +kernel) rfl rfl rfl 0 7 rfl rfl rfl hl.1 rfl (Nat.le_of_ble_eq_true rfl) dX7_lift_15 ⟨Nat.le_of_ble_eq_true rfl, Nat.le_of_ble_eq_true rfl⟩ (fun H locs hP hD hS => ?_)
  refine lv_imul hx hb dX7_lift_18 ?_
  refine lv_isub hx hb dX7_lift_19 ?_
  refine hend _ _ _ _ _ ?_ hP hD hS dX7_lift_20
  exact rfl

set_option maxHeartbeats 4000000 in
set_option maxRecDepth 100000 in
theorem c_X7_wants (l : Launch) (D : va_G) (cI cZ cS cJ : ClassId) (m0 : Nat) (m1 : Nat) (m2 : Nat) (m3 : Nat) (th : Int32) (sv : Int32) (kp : Int32) (ln : Int32) (ca : Int32) (lt : Int32) (fi : Int32) (sd : Int32) (hs : Int64) (B : Nat → Nat → Nat → Int32) (T : Nat → Int32) (h : Nat → Int32) (a : Nat) (k : Nat) (ha : a ≤ 8) (hk8 : k < 8) : C0 l yX7_wants wsX7_wants ({ frames := 2, cells := 0, slots := 0, locals := 45 }) D (tyL cI cZ cS cJ) [.ref m0, .int (nI (130 * a)), .int (nI k)] (List.flatten [mdO m0 m1 m2 m3 th sv kp ln ca lt fi sd hs, arC cI m1 1170 (enc B), arC cI m2 60 T, arC cI m3 8 h]) (some (.int (wt (B a) k))) (List.flatten [mdO m0 m1 m2 m3 th sv kp ln ca lt fi sd hs, arC cI m1 1170 (enc B), arC cI m2 60 T, arC cI m3 8 h]) 0 0 := by
  refine C0_int (cc := cX7_wants) (maxL := 4) (rt := .int) (by decide) rfl (Nat.le_of_ble_eq_true rfl) (rfl) ?_
  intro p e s m below meth c A ls Q X hK hP hD hS hA hl hend
  have X : CallFix p m c cX7_wants 4 s ([.ref m0, .int (nI (130 * a)), .int (nI k)] : List Value).toArray wsX7_wants RX7 := X
  obtain ⟨hx, hb, hml, hown, hts⟩ := id X
  have hl : lv_has ls 4 [(0, .ref m0), (1, .int (nI (130 * a))), (2, .int (nI k))] := hl
  refine lv_bipush (v := 10) hx hb dX7_wants_0 (by decide) ?_
  refine lv_aload_n hx hb dX7_wants_2 rfl (lv_at hl 0 rfl) ?_
  refine lv_iload_n hx hb dX7_wants_3 rfl (lv_at hl 1 rfl) ?_
  refine lv_iload_n hx hb dX7_wants_4 rfl (lv_at hl 2 rfl) ?_
  refine kcallV (As := [.int (nI (130 * a)), .int (nI k)]) (rest := [.int 10]) (Wn := [mdO m0 m1 m2 m3 th sv kp ln ca lt fi sd hs, arC cI m1 1170 (enc B), arC cI m2 60 T, arC cI m3 8 h]) X (c_X7_lift l D cI cZ cS cJ m0 m1 m2 m3 th sv kp ln ca lt fi sd hs B T h a k (by omega) (by omega)) (cwV 2 hts gX7_wants_X7_lift rfl rfl rfl (by decide +kernel) ⟨Nat.le_of_ble_eq_true rfl, Nat.le_of_ble_eq_true rfl⟩) hK hP hD hS hA [0, 1, 2, 3] rfl (by decide +kernel) rfl rfl rfl 0 7 rfl rfl rfl hl.1 rfl (Nat.le_of_ble_eq_true rfl) dX7_wants_5 ⟨Nat.le_of_ble_eq_true rfl, Nat.le_of_ble_eq_true rfl⟩ (fun H locs hP hD hS => ?_)
  refine lv_imul hx hb dX7_wants_8 ?_
  refine lv_istore_n (lv' := [(3, .int (10 * (lift (B a) k))), (0, .ref m0), (1, .int (nI (130 * a))), (2, .int (nI k))]) hx hb dX7_wants_9 rfl hl (by decide) rfl (fun ls hl => ?_)
  refine lv_iload_n hx hb dX7_wants_10 rfl (lv_at hl 0 rfl) ?_
  refine lv_if_ge (tgt := 18) hx hb dX7_wants_11 (by decide) (fun c11 => ?_) (fun c11 => ?_)
  · skip
    refine lv_iload_n hx hb dX7_wants_18 rfl (lv_at hl 0 rfl) ?_
    refine lv_sipush (v := 999) hx hb dX7_wants_19 (by decide) ?_
    refine lv_icmp_le (tgt := 31) hx hb dX7_wants_22 (by decide) (fun c22 => ?_) (fun c22 => ?_)
    · skip
      refine lv_iload_n hx hb dX7_wants_31 rfl (lv_at hl 0 rfl) ?_
      refine hend _ _ _ _ _ ?_ hP hD hS dX7_wants_32
      first | exact wts_a c11 | exact wts_b c22 | exact wts_c c11 c22
    · skip
      refine lv_sipush (v := 999) hx hb dX7_wants_25 (by decide) ?_
      refine lv_goto (tgt := 32) hx hb dX7_wants_28 (by decide) ?_
      refine hend _ _ _ _ _ ?_ hP hD hS dX7_wants_32
      first | exact wts_a c11 | exact wts_b c22 | exact wts_c c11 c22
  · skip
    refine lv_iconst (v := 0) hx hb dX7_wants_14 (by decide) ?_
    refine lv_goto (tgt := 32) hx hb dX7_wants_15 (by decide) ?_
    refine hend _ _ _ _ _ ?_ hP hD hS dX7_wants_32
    first | exact wts_a c11 | exact wts_b c22 | exact wts_c c11 c22

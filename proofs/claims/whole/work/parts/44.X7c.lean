set_option maxHeartbeats 4000000 in
set_option maxRecDepth 100000 in
theorem c_X7_pull (l : Launch) (D : va_G) (cI cZ cS cJ : ClassId) (m0 : Nat) (m1 : Nat) (m2 : Nat) (m3 : Nat) (th : Int32) (sv : Int32) (kp : Int32) (ln : Int32) (ca : Int32) (lt : Int32) (fi : Int32) (sd : Int32) (hs : Int64) (B : Nat → Nat → Nat → Int32) (T : Nat → Int32) (h : Nat → Int32) (a : Nat) (r : Nat) (ha : a ≤ 8) (hr7 : r < 7) (hT : ∀ r, r < 7 → B a 3 r = 0 ∨ B a 3 r = 1) : C0 l yX7_pull wsX7_pull ({ frames := 3, cells := 0, slots := 0, locals := 68 }) D (tyL cI cZ cS cJ) [.ref m0, .int (nI (130 * a)), .int (nI r)] (List.flatten [mdO m0 m1 m2 m3 th sv kp ln ca lt fi sd hs, arC cI m1 1170 (enc B), arC cI m2 60 T, arC cI m3 8 h]) (some (.int (plR (B a) h r))) (List.flatten [mdO m0 m1 m2 m3 th sv kp ln ca lt fi sd hs, arC cI m1 1170 (enc B), arC cI m2 60 T, arC cI m3 8 h]) 0 0 := by
  refine C0_int (cc := cX7_pull) (maxL := 7) (rt := .int) (by decide) rfl (Nat.le_of_ble_eq_true rfl) (rfl) ?_
  intro p e s m below meth c A ls Q X hK hP hD hS hA hl hend
  have X : CallFix p m c cX7_pull 7 s ([.ref m0, .int (nI (130 * a)), .int (nI r)] : List Value).toArray wsX7_pull RX7 := X
  obtain ⟨hx, hb, hml, hown, hts⟩ := id X
  have hl : lv_has ls 7 [(0, .ref m0), (1, .int (nI (130 * a))), (2, .int (nI r))] := hl
  have hinX7 : ∀ w ∈ u_ws RX7 TX7 12, w ∈ wsX7_pull := by decide +kernel
  refine lv_aload_n hx hb dX7_pull_0 rfl (lv_at hl 0 rfl) ?_
  refine va_get (D := D) (ci := 7) (v := .ref m3) (C := RX7) (T := TX7) (N := 12) hx hb hts hinX7 hown hK hP 0 rfl rfl 10 (by decide) (hts (.fieldLink RX7 16 "RibbonBalloonsModel" "heights" "[I") (by decide +kernel)) (fun _ h9 => h9) rfl dX7_pull_1 ?_
  refine lv_iload_n hx hb dX7_pull_4 rfl (lv_at hl 2 rfl) ?_
  refine r_iald hx hb hK hP 3 0 r (f := h) rfl rfl (by omega) (by omega) dX7_pull_5 ?_
  refine lv_aload_n hx hb dX7_pull_6 rfl (lv_at hl 0 rfl) ?_
  refine va_get (D := D) (ci := 7) (v := .ref m3) (C := RX7) (T := TX7) (N := 12) hx hb hts hinX7 hown hK hP 0 rfl rfl 10 (by decide) (hts (.fieldLink RX7 16 "RibbonBalloonsModel" "heights" "[I") (by decide +kernel)) (fun _ h9 => h9) rfl dX7_pull_7 ?_
  refine lv_iload_n hx hb dX7_pull_10 rfl (lv_at hl 2 rfl) ?_
  refine lv_iconst (v := 1) hx hb dX7_pull_11 (by decide) ?_
  refine lv_iadd hx hb dX7_pull_12 ?_
  refine lv_eqi (y := nI (r + 1)) (nI_add _ _) ?_
  refine r_iald hx hb hK hP 3 0 (r + 1) (f := h) rfl rfl (by omega) (by omega) dX7_pull_13 ?_
  refine lv_isub hx hb dX7_pull_14 ?_
  refine lv_istore_n (lv' := [(3, .int ((h r) - (h (r + 1)))), (0, .ref m0), (1, .int (nI (130 * a))), (2, .int (nI r))]) hx hb dX7_pull_15 rfl hl (by decide) rfl (fun ls hl => ?_)
  refine lv_aload_n hx hb dX7_pull_16 rfl (lv_at hl 1 rfl) ?_
  refine lv_iload_n hx hb dX7_pull_17 rfl (lv_at hl 2 rfl) ?_
  refine lv_iload_n hx hb dX7_pull_18 rfl (lv_at hl 3 rfl) ?_
  refine kcallV (As := [.int (nI (130 * a)), .int (nI r)]) (rest := []) (Wn := [mdO m0 m1 m2 m3 th sv kp ln ca lt fi sd hs, arC cI m1 1170 (enc B), arC cI m2 60 T, arC cI m3 8 h]) X (c_X7_long1 l D cI cZ cS cJ m0 m1 m2 m3 th sv kp ln ca lt fi sd hs B T h a r (by omega) (by omega)) (cwV 2 hts gX7_pull_X7_long1 rfl rfl rfl (by decide +kernel) ⟨Nat.le_of_ble_eq_true rfl, Nat.le_of_ble_eq_true rfl⟩) hK hP hD hS hA [0, 1, 2, 3] rfl (by decide +kernel) rfl rfl rfl 0 7 rfl rfl rfl hl.1 rfl (Nat.le_of_ble_eq_true rfl) dX7_pull_19 ⟨Nat.le_of_ble_eq_true rfl, Nat.le_of_ble_eq_true rfl⟩ (fun H locs hP hD hS => ?_)
  refine lv_istore (lv' := [(4, .int (B a 4 r)), (3, .int ((h r) - (h (r + 1)))), (0, .ref m0), (1, .int (nI (130 * a))), (2, .int (nI r))]) hx hb dX7_pull_22 hl (by decide) rfl (fun ls hl => ?_)
  refine lv_aload_n hx hb dX7_pull_24 rfl (lv_at hl 2 rfl) ?_
  refine lv_iload_n hx hb dX7_pull_25 rfl (lv_at hl 3 rfl) ?_
  refine lv_iload_n hx hb dX7_pull_26 rfl (lv_at hl 4 rfl) ?_
  refine kcallV (As := [.int (nI (130 * a)), .int (nI r)]) (rest := []) (Wn := [mdO m0 m1 m2 m3 th sv kp ln ca lt fi sd hs, arC cI m1 1170 (enc B), arC cI m2 60 T, arC cI m3 8 h]) X (c_X7_isTied l D cI cZ cS cJ m0 m1 m2 m3 th sv kp ln ca lt fi sd hs B T h a r (by omega) (by omega) hT) (cwV 2 hts gX7_pull_X7_isTied rfl rfl rfl (by decide +kernel) ⟨Nat.le_of_ble_eq_true rfl, Nat.le_of_ble_eq_true rfl⟩) hK hP hD hS hA [0, 1, 2, 3] rfl (by decide +kernel) rfl rfl rfl 0 7 rfl rfl rfl hl.1 rfl (Nat.le_of_ble_eq_true rfl) dX7_pull_27 ⟨Nat.le_of_ble_eq_true rfl, Nat.le_of_ble_eq_true rfl⟩ (fun H locs hP hD hS => ?_)
  refine lv_if_eq (tgt := 46) hx hb dX7_pull_30 (by decide) (fun c30 => ?_) (fun c30 => ?_)
  · skip
    refine lv_iconst (v := 0) hx hb dX7_pull_46 (by decide) ?_
    refine hend _ _ _ _ _ ?_ hP hD hS dX7_pull_47
    first | exact plR_0 c30 | exact plR_z c30 c36 c43
  · skip
    refine lv_iload_n hx hb dX7_pull_33 rfl (lv_at hl 1 rfl) ?_
    refine lv_iload hx hb dX7_pull_34 (lv_at hl 0 rfl) ?_
    refine lv_icmp_eq (tgt := 48) hx hb dX7_pull_36 (by decide) (fun c36 => ?_) (fun c36 => ?_)
    · skip
      refine lv_iload hx hb dX7_pull_48 (lv_at hl 0 rfl) ?_
      refine lv_if_ne (tgt := 78) hx hb dX7_pull_50 (by decide) (fun c50 => ?_) (fun c50 => ?_)
      · skip
        refine lv_iload_n hx hb dX7_pull_78 rfl (lv_at hl 1 rfl) ?_
        refine lv_if_ge (tgt := 86) hx hb dX7_pull_79 (by decide) (fun c79 => ?_) (fun c79 => ?_)
        · skip
          refine lv_iconst (v := 0) hx hb dX7_pull_86 (by decide) ?_
          refine lv_istore (lv' := [(5, .int 0), (4, .int (B a 4 r)), (3, .int ((h r) - (h (r + 1)))), (0, .ref m0), (1, .int (nI (130 * a))), (2, .int (nI r))]) hx hb dX7_pull_87 hl (by decide) rfl (fun ls hl => ?_)
          refine lv_iload hx hb dX7_pull_89 (lv_at hl 0 rfl) ?_
          refine lv_if_eq (tgt := 100) hx hb dX7_pull_91 (by decide) (fun _ => ?_) (fun h => absurd (by decide) h)
          refine lv_iload_n hx hb dX7_pull_100 rfl (lv_at hl 5 rfl) ?_
          refine lv_istore (lv' := [(6, .int (nI r)), (5, .int 0), (4, .int (B a 4 r)), (3, .int ((h r) - (h (r + 1)))), (0, .ref m0), (1, .int (nI (130 * a))), (2, .int (nI r))]) hx hb dX7_pull_101 hl (by decide) rfl (fun ls hl => ?_)
          refine lv_aload_n hx hb dX7_pull_103 rfl (lv_at hl 4 rfl) ?_
          refine lv_iload_n hx hb dX7_pull_104 rfl (lv_at hl 5 rfl) ?_
          refine lv_iload hx hb dX7_pull_105 (lv_at hl 0 rfl) ?_
          refine kcallV (As := [.int (nI (130 * a)), .int (nI r)]) (rest := []) (Wn := [mdO m0 m1 m2 m3 th sv kp ln ca lt fi sd hs, arC cI m1 1170 (enc B), arC cI m2 60 T, arC cI m3 8 h]) X (c_X7_wants l D cI cZ cS cJ m0 m1 m2 m3 th sv kp ln ca lt fi sd hs B T h a r (by omega) (by omega)) (cwV 2 hts gX7_pull_X7_wants rfl rfl rfl (by decide +kernel) ⟨Nat.le_of_ble_eq_true rfl, Nat.le_of_ble_eq_true rfl⟩) hK hP hD hS hA [0, 1, 2, 3] rfl (by decide +kernel) rfl rfl rfl 0 7 rfl rfl rfl hl.1 rfl (Nat.le_of_ble_eq_true rfl) dX7_pull_107 ⟨Nat.le_of_ble_eq_true rfl, Nat.le_of_ble_eq_true rfl⟩ (fun H locs hP hD hS => ?_)
          refine lv_aload_n hx hb dX7_pull_110 rfl (lv_at hl 4 rfl) ?_
          refine va_get (D := D) (ci := 7) (v := .ref m3) (C := RX7) (T := TX7) (N := 12) hx hb hts hinX7 hown hK hP 0 rfl rfl 10 (by decide) (hts (.fieldLink RX7 16 "RibbonBalloonsModel" "heights" "[I") (by decide +kernel)) (fun _ h9 => h9) rfl dX7_pull_111 ?_
          refine lv_iload hx hb dX7_pull_114 (lv_at hl 0 rfl) ?_
          refine r_iald hx hb hK hP 3 0 r (f := h) rfl rfl (by omega) (by omega) dX7_pull_116 ?_
          refine lv_isub hx hb dX7_pull_117 ?_
          refine hend _ _ _ _ _ ?_ hP hD hS dX7_pull_118
          first | exact plR_v c30 (Or.inl c36) (by first | exact upR_1 c50 c67 | exact upR_2 c50 c67 | exact upR_3 c50 c79 | exact upR_4 c50 c79) | exact plR_v c30 (Or.inr c43) (by first | exact upR_1 c50 c67 | exact upR_2 c50 c67 | exact upR_3 c50 c79 | exact upR_4 c50 c79)
        · skip
          refine lv_iconst (v := 1) hx hb dX7_pull_82 (by decide) ?_
          refine lv_goto (tgt := 87) hx hb dX7_pull_83 (by decide) ?_
          refine lv_istore (lv' := [(5, .int 1), (4, .int (B a 4 r)), (3, .int ((h r) - (h (r + 1)))), (0, .ref m0), (1, .int (nI (130 * a))), (2, .int (nI r))]) hx hb dX7_pull_87 hl (by decide) rfl (fun ls hl => ?_)
          refine lv_iload hx hb dX7_pull_89 (lv_at hl 0 rfl) ?_
          refine lv_if_eq (tgt := 100) hx hb dX7_pull_91 (by decide) (fun h => absurd h (by decide)) (fun _ => ?_)
          refine lv_iload_n hx hb dX7_pull_94 rfl (lv_at hl 5 rfl) ?_
          refine lv_iconst (v := 1) hx hb dX7_pull_95 (by decide) ?_
          refine lv_iadd hx hb dX7_pull_96 ?_
          refine lv_eqi (y := nI (r + 1)) (nI_add _ _) ?_
          refine lv_goto (tgt := 101) hx hb dX7_pull_97 (by decide) ?_
          refine lv_istore (lv' := [(6, .int (nI (r + 1))), (5, .int 1), (4, .int (B a 4 r)), (3, .int ((h r) - (h (r + 1)))), (0, .ref m0), (1, .int (nI (130 * a))), (2, .int (nI r))]) hx hb dX7_pull_101 hl (by decide) rfl (fun ls hl => ?_)
          refine lv_aload_n hx hb dX7_pull_103 rfl (lv_at hl 4 rfl) ?_
          refine lv_iload_n hx hb dX7_pull_104 rfl (lv_at hl 5 rfl) ?_
          refine lv_iload hx hb dX7_pull_105 (lv_at hl 0 rfl) ?_
          refine kcallV (As := [.int (nI (130 * a)), .int (nI (r + 1))]) (rest := []) (Wn := [mdO m0 m1 m2 m3 th sv kp ln ca lt fi sd hs, arC cI m1 1170 (enc B), arC cI m2 60 T, arC cI m3 8 h]) X (c_X7_wants l D cI cZ cS cJ m0 m1 m2 m3 th sv kp ln ca lt fi sd hs B T h a (r + 1) (by omega) (by omega)) (cwV 2 hts gX7_pull_X7_wants rfl rfl rfl (by decide +kernel) ⟨Nat.le_of_ble_eq_true rfl, Nat.le_of_ble_eq_true rfl⟩) hK hP hD hS hA [0, 1, 2, 3] rfl (by decide +kernel) rfl rfl rfl 0 7 rfl rfl rfl hl.1 rfl (Nat.le_of_ble_eq_true rfl) dX7_pull_107 ⟨Nat.le_of_ble_eq_true rfl, Nat.le_of_ble_eq_true rfl⟩ (fun H locs hP hD hS => ?_)
          refine lv_aload_n hx hb dX7_pull_110 rfl (lv_at hl 4 rfl) ?_
          refine va_get (D := D) (ci := 7) (v := .ref m3) (C := RX7) (T := TX7) (N := 12) hx hb hts hinX7 hown hK hP 0 rfl rfl 10 (by decide) (hts (.fieldLink RX7 16 "RibbonBalloonsModel" "heights" "[I") (by decide +kernel)) (fun _ h9 => h9) rfl dX7_pull_111 ?_
          refine lv_iload hx hb dX7_pull_114 (lv_at hl 0 rfl) ?_
          refine r_iald hx hb hK hP 3 0 (r + 1) (f := h) rfl rfl (by omega) (by omega) dX7_pull_116 ?_
          refine lv_isub hx hb dX7_pull_117 ?_
          refine hend _ _ _ _ _ ?_ hP hD hS dX7_pull_118
          first | exact plR_v c30 (Or.inl c36) (by first | exact upR_1 c50 c67 | exact upR_2 c50 c67 | exact upR_3 c50 c79 | exact upR_4 c50 c79) | exact plR_v c30 (Or.inr c43) (by first | exact upR_1 c50 c67 | exact upR_2 c50 c67 | exact upR_3 c50 c79 | exact upR_4 c50 c79)
      · skip
        refine lv_aload_n hx hb dX7_pull_53 rfl (lv_at hl 2 rfl) ?_
        refine lv_iload_n hx hb dX7_pull_54 rfl (lv_at hl 3 rfl) ?_
        refine lv_iload_n hx hb dX7_pull_55 rfl (lv_at hl 4 rfl) ?_
        refine lv_iconst (v := 1) hx hb dX7_pull_56 (by decide) ?_
        refine lv_iadd hx hb dX7_pull_57 ?_
        refine lv_eqi (y := nI (r + 1)) (nI_add _ _) ?_
        refine kcallV (As := [.int (nI (130 * a)), .int (nI (r + 1))]) (rest := []) (Wn := [mdO m0 m1 m2 m3 th sv kp ln ca lt fi sd hs, arC cI m1 1170 (enc B), arC cI m2 60 T, arC cI m3 8 h]) X (c_X7_wants l D cI cZ cS cJ m0 m1 m2 m3 th sv kp ln ca lt fi sd hs B T h a (r + 1) (by omega) (by omega)) (cwV 2 hts gX7_pull_X7_wants rfl rfl rfl (by decide +kernel) ⟨Nat.le_of_ble_eq_true rfl, Nat.le_of_ble_eq_true rfl⟩) hK hP hD hS hA [0, 1, 2, 3] rfl (by decide +kernel) rfl rfl rfl 0 7 rfl rfl rfl hl.1 rfl (Nat.le_of_ble_eq_true rfl) dX7_pull_58 ⟨Nat.le_of_ble_eq_true rfl, Nat.le_of_ble_eq_true rfl⟩ (fun H locs hP hD hS => ?_)
        refine lv_aload_n hx hb dX7_pull_61 rfl (lv_at hl 2 rfl) ?_
        refine lv_iload_n hx hb dX7_pull_62 rfl (lv_at hl 3 rfl) ?_
        refine lv_iload_n hx hb dX7_pull_63 rfl (lv_at hl 4 rfl) ?_
        refine kcallV (As := [.int (nI (130 * a)), .int (nI r)]) (rest := [.int (wt (B a) (r + 1))]) (Wn := [mdO m0 m1 m2 m3 th sv kp ln ca lt fi sd hs, arC cI m1 1170 (enc B), arC cI m2 60 T, arC cI m3 8 h]) X (c_X7_wants l D cI cZ cS cJ m0 m1 m2 m3 th sv kp ln ca lt fi sd hs B T h a r (by omega) (by omega)) (cwV 2 hts gX7_pull_X7_wants rfl rfl rfl (by decide +kernel) ⟨Nat.le_of_ble_eq_true rfl, Nat.le_of_ble_eq_true rfl⟩) hK hP hD hS hA [0, 1, 2, 3] rfl (by decide +kernel) rfl rfl rfl 0 7 rfl rfl rfl hl.1 rfl (Nat.le_of_ble_eq_true rfl) dX7_pull_64 ⟨Nat.le_of_ble_eq_true rfl, Nat.le_of_ble_eq_true rfl⟩ (fun H locs hP hD hS => ?_)
        refine lv_icmp_le (tgt := 74) hx hb dX7_pull_67 (by decide) (fun c67 => ?_) (fun c67 => ?_)
        · skip
          refine lv_iconst (v := 0) hx hb dX7_pull_74 (by decide) ?_
          refine lv_goto (tgt := 87) hx hb dX7_pull_75 (by decide) ?_
          refine lv_istore (lv' := [(5, .int 0), (4, .int (B a 4 r)), (3, .int ((h r) - (h (r + 1)))), (0, .ref m0), (1, .int (nI (130 * a))), (2, .int (nI r))]) hx hb dX7_pull_87 hl (by decide) rfl (fun ls hl => ?_)
          refine lv_iload hx hb dX7_pull_89 (lv_at hl 0 rfl) ?_
          refine lv_if_eq (tgt := 100) hx hb dX7_pull_91 (by decide) (fun _ => ?_) (fun h => absurd (by decide) h)
          refine lv_iload_n hx hb dX7_pull_100 rfl (lv_at hl 5 rfl) ?_
          refine lv_istore (lv' := [(6, .int (nI r)), (5, .int 0), (4, .int (B a 4 r)), (3, .int ((h r) - (h (r + 1)))), (0, .ref m0), (1, .int (nI (130 * a))), (2, .int (nI r))]) hx hb dX7_pull_101 hl (by decide) rfl (fun ls hl => ?_)
          refine lv_aload_n hx hb dX7_pull_103 rfl (lv_at hl 4 rfl) ?_
          refine lv_iload_n hx hb dX7_pull_104 rfl (lv_at hl 5 rfl) ?_
          refine lv_iload hx hb dX7_pull_105 (lv_at hl 0 rfl) ?_
          refine kcallV (As := [.int (nI (130 * a)), .int (nI r)]) (rest := []) (Wn := [mdO m0 m1 m2 m3 th sv kp ln ca lt fi sd hs, arC cI m1 1170 (enc B), arC cI m2 60 T, arC cI m3 8 h]) X (c_X7_wants l D cI cZ cS cJ m0 m1 m2 m3 th sv kp ln ca lt fi sd hs B T h a r (by omega) (by omega)) (cwV 2 hts gX7_pull_X7_wants rfl rfl rfl (by decide +kernel) ⟨Nat.le_of_ble_eq_true rfl, Nat.le_of_ble_eq_true rfl⟩) hK hP hD hS hA [0, 1, 2, 3] rfl (by decide +kernel) rfl rfl rfl 0 7 rfl rfl rfl hl.1 rfl (Nat.le_of_ble_eq_true rfl) dX7_pull_107 ⟨Nat.le_of_ble_eq_true rfl, Nat.le_of_ble_eq_true rfl⟩ (fun H locs hP hD hS => ?_)
          refine lv_aload_n hx hb dX7_pull_110 rfl (lv_at hl 4 rfl) ?_
          refine va_get (D := D) (ci := 7) (v := .ref m3) (C := RX7) (T := TX7) (N := 12) hx hb hts hinX7 hown hK hP 0 rfl rfl 10 (by decide) (hts (.fieldLink RX7 16 "RibbonBalloonsModel" "heights" "[I") (by decide +kernel)) (fun _ h9 => h9) rfl dX7_pull_111 ?_
          refine lv_iload hx hb dX7_pull_114 (lv_at hl 0 rfl) ?_
          refine r_iald hx hb hK hP 3 0 r (f := h) rfl rfl (by omega) (by omega) dX7_pull_116 ?_
          refine lv_isub hx hb dX7_pull_117 ?_
          refine hend _ _ _ _ _ ?_ hP hD hS dX7_pull_118
          first | exact plR_v c30 (Or.inl c36) (by first | exact upR_1 c50 c67 | exact upR_2 c50 c67 | exact upR_3 c50 c79 | exact upR_4 c50 c79) | exact plR_v c30 (Or.inr c43) (by first | exact upR_1 c50 c67 | exact upR_2 c50 c67 | exact upR_3 c50 c79 | exact upR_4 c50 c79)
        · skip
          refine lv_iconst (v := 1) hx hb dX7_pull_70 (by decide) ?_
          refine lv_goto (tgt := 87) hx hb dX7_pull_71 (by decide) ?_
          refine lv_istore (lv' := [(5, .int 1), (4, .int (B a 4 r)), (3, .int ((h r) - (h (r + 1)))), (0, .ref m0), (1, .int (nI (130 * a))), (2, .int (nI r))]) hx hb dX7_pull_87 hl (by decide) rfl (fun ls hl => ?_)
          refine lv_iload hx hb dX7_pull_89 (lv_at hl 0 rfl) ?_
          refine lv_if_eq (tgt := 100) hx hb dX7_pull_91 (by decide) (fun h => absurd h (by decide)) (fun _ => ?_)
          refine lv_iload_n hx hb dX7_pull_94 rfl (lv_at hl 5 rfl) ?_
          refine lv_iconst (v := 1) hx hb dX7_pull_95 (by decide) ?_
          refine lv_iadd hx hb dX7_pull_96 ?_
          refine lv_eqi (y := nI (r + 1)) (nI_add _ _) ?_
          refine lv_goto (tgt := 101) hx hb dX7_pull_97 (by decide) ?_
          refine lv_istore (lv' := [(6, .int (nI (r + 1))), (5, .int 1), (4, .int (B a 4 r)), (3, .int ((h r) - (h (r + 1)))), (0, .ref m0), (1, .int (nI (130 * a))), (2, .int (nI r))]) hx hb dX7_pull_101 hl (by decide) rfl (fun ls hl => ?_)
          refine lv_aload_n hx hb dX7_pull_103 rfl (lv_at hl 4 rfl) ?_
          refine lv_iload_n hx hb dX7_pull_104 rfl (lv_at hl 5 rfl) ?_
          refine lv_iload hx hb dX7_pull_105 (lv_at hl 0 rfl) ?_
          refine kcallV (As := [.int (nI (130 * a)), .int (nI (r + 1))]) (rest := []) (Wn := [mdO m0 m1 m2 m3 th sv kp ln ca lt fi sd hs, arC cI m1 1170 (enc B), arC cI m2 60 T, arC cI m3 8 h]) X (c_X7_wants l D cI cZ cS cJ m0 m1 m2 m3 th sv kp ln ca lt fi sd hs B T h a (r + 1) (by omega) (by omega)) (cwV 2 hts gX7_pull_X7_wants rfl rfl rfl (by decide +kernel) ⟨Nat.le_of_ble_eq_true rfl, Nat.le_of_ble_eq_true rfl⟩) hK hP hD hS hA [0, 1, 2, 3] rfl (by decide +kernel) rfl rfl rfl 0 7 rfl rfl rfl hl.1 rfl (Nat.le_of_ble_eq_true rfl) dX7_pull_107 ⟨Nat.le_of_ble_eq_true rfl, Nat.le_of_ble_eq_true rfl⟩ (fun H locs hP hD hS => ?_)
          refine lv_aload_n hx hb dX7_pull_110 rfl (lv_at hl 4 rfl) ?_
          refine va_get (D := D) (ci := 7) (v := .ref m3) (C := RX7) (T := TX7) (N := 12) hx hb hts hinX7 hown hK hP 0 rfl rfl 10 (by decide) (hts (.fieldLink RX7 16 "RibbonBalloonsModel" "heights" "[I") (by decide +kernel)) (fun _ h9 => h9) rfl dX7_pull_111 ?_
          refine lv_iload hx hb dX7_pull_114 (lv_at hl 0 rfl) ?_
          refine r_iald hx hb hK hP 3 0 (r + 1) (f := h) rfl rfl (by omega) (by omega) dX7_pull_116 ?_
          refine lv_isub hx hb dX7_pull_117 ?_
          refine hend _ _ _ _ _ ?_ hP hD hS dX7_pull_118
          first | exact plR_v c30 (Or.inl c36) (by first | exact upR_1 c50 c67 | exact upR_2 c50 c67 | exact upR_3 c50 c79 | exact upR_4 c50 c79) | exact plR_v c30 (Or.inr c43) (by first | exact upR_1 c50 c67 | exact upR_2 c50 c67 | exact upR_3 c50 c79 | exact upR_4 c50 c79)
    · skip
      refine lv_iload_n hx hb dX7_pull_39 rfl (lv_at hl 1 rfl) ?_
      refine lv_iload hx hb dX7_pull_40 (lv_at hl 0 rfl) ?_
      refine lv_ineg hx hb dX7_pull_42 ?_
      refine lv_icmp_eq (tgt := 48) hx hb dX7_pull_43 (by decide) (fun c43 => ?_) (fun c43 => ?_)
      · skip
        refine lv_iload hx hb dX7_pull_48 (lv_at hl 0 rfl) ?_
        refine lv_if_ne (tgt := 78) hx hb dX7_pull_50 (by decide) (fun c50 => ?_) (fun c50 => ?_)
        · skip
          refine lv_iload_n hx hb dX7_pull_78 rfl (lv_at hl 1 rfl) ?_
          refine lv_if_ge (tgt := 86) hx hb dX7_pull_79 (by decide) (fun c79 => ?_) (fun c79 => ?_)
          · skip
            refine lv_iconst (v := 0) hx hb dX7_pull_86 (by decide) ?_
            refine lv_istore (lv' := [(5, .int 0), (4, .int (B a 4 r)), (3, .int ((h r) - (h (r + 1)))), (0, .ref m0), (1, .int (nI (130 * a))), (2, .int (nI r))]) hx hb dX7_pull_87 hl (by decide) rfl (fun ls hl => ?_)
            refine lv_iload hx hb dX7_pull_89 (lv_at hl 0 rfl) ?_
            refine lv_if_eq (tgt := 100) hx hb dX7_pull_91 (by decide) (fun _ => ?_) (fun h => absurd (by decide) h)
            refine lv_iload_n hx hb dX7_pull_100 rfl (lv_at hl 5 rfl) ?_
            refine lv_istore (lv' := [(6, .int (nI r)), (5, .int 0), (4, .int (B a 4 r)), (3, .int ((h r) - (h (r + 1)))), (0, .ref m0), (1, .int (nI (130 * a))), (2, .int (nI r))]) hx hb dX7_pull_101 hl (by decide) rfl (fun ls hl => ?_)
            refine lv_aload_n hx hb dX7_pull_103 rfl (lv_at hl 4 rfl) ?_
            refine lv_iload_n hx hb dX7_pull_104 rfl (lv_at hl 5 rfl) ?_
            refine lv_iload hx hb dX7_pull_105 (lv_at hl 0 rfl) ?_
            refine kcallV (As := [.int (nI (130 * a)), .int (nI r)]) (rest := []) (Wn := [mdO m0 m1 m2 m3 th sv kp ln ca lt fi sd hs, arC cI m1 1170 (enc B), arC cI m2 60 T, arC cI m3 8 h]) X (c_X7_wants l D cI cZ cS cJ m0 m1 m2 m3 th sv kp ln ca lt fi sd hs B T h a r (by omega) (by omega)) (cwV 2 hts gX7_pull_X7_wants rfl rfl rfl (by decide +kernel) ⟨Nat.le_of_ble_eq_true rfl, Nat.le_of_ble_eq_true rfl⟩) hK hP hD hS hA [0, 1, 2, 3] rfl (by decide +kernel) rfl rfl rfl 0 7 rfl rfl rfl hl.1 rfl (Nat.le_of_ble_eq_true rfl) dX7_pull_107 ⟨Nat.le_of_ble_eq_true rfl, Nat.le_of_ble_eq_true rfl⟩ (fun H locs hP hD hS => ?_)
            refine lv_aload_n hx hb dX7_pull_110 rfl (lv_at hl 4 rfl) ?_
            refine va_get (D := D) (ci := 7) (v := .ref m3) (C := RX7) (T := TX7) (N := 12) hx hb hts hinX7 hown hK hP 0 rfl rfl 10 (by decide) (hts (.fieldLink RX7 16 "RibbonBalloonsModel" "heights" "[I") (by decide +kernel)) (fun _ h9 => h9) rfl dX7_pull_111 ?_
            refine lv_iload hx hb dX7_pull_114 (lv_at hl 0 rfl) ?_
            refine r_iald hx hb hK hP 3 0 r (f := h) rfl rfl (by omega) (by omega) dX7_pull_116 ?_
            refine lv_isub hx hb dX7_pull_117 ?_
            refine hend _ _ _ _ _ ?_ hP hD hS dX7_pull_118
            first | exact plR_v c30 (Or.inl c36) (by first | exact upR_1 c50 c67 | exact upR_2 c50 c67 | exact upR_3 c50 c79 | exact upR_4 c50 c79) | exact plR_v c30 (Or.inr c43) (by first | exact upR_1 c50 c67 | exact upR_2 c50 c67 | exact upR_3 c50 c79 | exact upR_4 c50 c79)
          · skip
            refine lv_iconst (v := 1) hx hb dX7_pull_82 (by decide) ?_
            refine lv_goto (tgt := 87) hx hb dX7_pull_83 (by decide) ?_
            refine lv_istore (lv' := [(5, .int 1), (4, .int (B a 4 r)), (3, .int ((h r) - (h (r + 1)))), (0, .ref m0), (1, .int (nI (130 * a))), (2, .int (nI r))]) hx hb dX7_pull_87 hl (by decide) rfl (fun ls hl => ?_)
            refine lv_iload hx hb dX7_pull_89 (lv_at hl 0 rfl) ?_
            refine lv_if_eq (tgt := 100) hx hb dX7_pull_91 (by decide) (fun h => absurd h (by decide)) (fun _ => ?_)
            refine lv_iload_n hx hb dX7_pull_94 rfl (lv_at hl 5 rfl) ?_
            refine lv_iconst (v := 1) hx hb dX7_pull_95 (by decide) ?_
            refine lv_iadd hx hb dX7_pull_96 ?_
            refine lv_eqi (y := nI (r + 1)) (nI_add _ _) ?_
            refine lv_goto (tgt := 101) hx hb dX7_pull_97 (by decide) ?_
            refine lv_istore (lv' := [(6, .int (nI (r + 1))), (5, .int 1), (4, .int (B a 4 r)), (3, .int ((h r) - (h (r + 1)))), (0, .ref m0), (1, .int (nI (130 * a))), (2, .int (nI r))]) hx hb dX7_pull_101 hl (by decide) rfl (fun ls hl => ?_)
            refine lv_aload_n hx hb dX7_pull_103 rfl (lv_at hl 4 rfl) ?_
            refine lv_iload_n hx hb dX7_pull_104 rfl (lv_at hl 5 rfl) ?_
            refine lv_iload hx hb dX7_pull_105 (lv_at hl 0 rfl) ?_
            refine kcallV (As := [.int (nI (130 * a)), .int (nI (r + 1))]) (rest := []) (Wn := [mdO m0 m1 m2 m3 th sv kp ln ca lt fi sd hs, arC cI m1 1170 (enc B), arC cI m2 60 T, arC cI m3 8 h]) X (c_X7_wants l D cI cZ cS cJ m0 m1 m2 m3 th sv kp ln ca lt fi sd hs B T h a (r + 1) (by omega) (by omega)) (cwV 2 hts gX7_pull_X7_wants rfl rfl rfl (by decide +kernel) ⟨Nat.le_of_ble_eq_true rfl, Nat.le_of_ble_eq_true rfl⟩) hK hP hD hS hA [0, 1, 2, 3] rfl (by decide +kernel) rfl rfl rfl 0 7 rfl rfl rfl hl.1 rfl (Nat.le_of_ble_eq_true rfl) dX7_pull_107 ⟨Nat.le_of_ble_eq_true rfl, Nat.le_of_ble_eq_true rfl⟩ (fun H locs hP hD hS => ?_)
            refine lv_aload_n hx hb dX7_pull_110 rfl (lv_at hl 4 rfl) ?_
            refine va_get (D := D) (ci := 7) (v := .ref m3) (C := RX7) (T := TX7) (N := 12) hx hb hts hinX7 hown hK hP 0 rfl rfl 10 (by decide) (hts (.fieldLink RX7 16 "RibbonBalloonsModel" "heights" "[I") (by decide +kernel)) (fun _ h9 => h9) rfl dX7_pull_111 ?_
            refine lv_iload hx hb dX7_pull_114 (lv_at hl 0 rfl) ?_
            refine r_iald hx hb hK hP 3 0 (r + 1) (f := h) rfl rfl (by omega) (by omega) dX7_pull_116 ?_
            refine lv_isub hx hb dX7_pull_117 ?_
            refine hend _ _ _ _ _ ?_ hP hD hS dX7_pull_118
            first | exact plR_v c30 (Or.inl c36) (by first | exact upR_1 c50 c67 | exact upR_2 c50 c67 | exact upR_3 c50 c79 | exact upR_4 c50 c79) | exact plR_v c30 (Or.inr c43) (by first | exact upR_1 c50 c67 | exact upR_2 c50 c67 | exact upR_3 c50 c79 | exact upR_4 c50 c79)
        · skip
          refine lv_aload_n hx hb dX7_pull_53 rfl (lv_at hl 2 rfl) ?_
          refine lv_iload_n hx hb dX7_pull_54 rfl (lv_at hl 3 rfl) ?_
          refine lv_iload_n hx hb dX7_pull_55 rfl (lv_at hl 4 rfl) ?_
          refine lv_iconst (v := 1) hx hb dX7_pull_56 (by decide) ?_
          refine lv_iadd hx hb dX7_pull_57 ?_
          refine lv_eqi (y := nI (r + 1)) (nI_add _ _) ?_
          refine kcallV (As := [.int (nI (130 * a)), .int (nI (r + 1))]) (rest := []) (Wn := [mdO m0 m1 m2 m3 th sv kp ln ca lt fi sd hs, arC cI m1 1170 (enc B), arC cI m2 60 T, arC cI m3 8 h]) X (c_X7_wants l D cI cZ cS cJ m0 m1 m2 m3 th sv kp ln ca lt fi sd hs B T h a (r + 1) (by omega) (by omega)) (cwV 2 hts gX7_pull_X7_wants rfl rfl rfl (by decide +kernel) ⟨Nat.le_of_ble_eq_true rfl, Nat.le_of_ble_eq_true rfl⟩) hK hP hD hS hA [0, 1, 2, 3] rfl (by decide +kernel) rfl rfl rfl 0 7 rfl rfl rfl hl.1 rfl (Nat.le_of_ble_eq_true rfl) dX7_pull_58 ⟨Nat.le_of_ble_eq_true rfl, Nat.le_of_ble_eq_true rfl⟩ (fun H locs hP hD hS => ?_)
          refine lv_aload_n hx hb dX7_pull_61 rfl (lv_at hl 2 rfl) ?_
          refine lv_iload_n hx hb dX7_pull_62 rfl (lv_at hl 3 rfl) ?_
          refine lv_iload_n hx hb dX7_pull_63 rfl (lv_at hl 4 rfl) ?_
          refine kcallV (As := [.int (nI (130 * a)), .int (nI r)]) (rest := [.int (wt (B a) (r + 1))]) (Wn := [mdO m0 m1 m2 m3 th sv kp ln ca lt fi sd hs, arC cI m1 1170 (enc B), arC cI m2 60 T, arC cI m3 8 h]) X (c_X7_wants l D cI cZ cS cJ m0 m1 m2 m3 th sv kp ln ca lt fi sd hs B T h a r (by omega) (by omega)) (cwV 2 hts gX7_pull_X7_wants rfl rfl rfl (by decide +kernel) ⟨Nat.le_of_ble_eq_true rfl, Nat.le_of_ble_eq_true rfl⟩) hK hP hD hS hA [0, 1, 2, 3] rfl (by decide +kernel) rfl rfl rfl 0 7 rfl rfl rfl hl.1 rfl (Nat.le_of_ble_eq_true rfl) dX7_pull_64 ⟨Nat.le_of_ble_eq_true rfl, Nat.le_of_ble_eq_true rfl⟩ (fun H locs hP hD hS => ?_)
          refine lv_icmp_le (tgt := 74) hx hb dX7_pull_67 (by decide) (fun c67 => ?_) (fun c67 => ?_)
          · skip
            refine lv_iconst (v := 0) hx hb dX7_pull_74 (by decide) ?_
            refine lv_goto (tgt := 87) hx hb dX7_pull_75 (by decide) ?_
            refine lv_istore (lv' := [(5, .int 0), (4, .int (B a 4 r)), (3, .int ((h r) - (h (r + 1)))), (0, .ref m0), (1, .int (nI (130 * a))), (2, .int (nI r))]) hx hb dX7_pull_87 hl (by decide) rfl (fun ls hl => ?_)
            refine lv_iload hx hb dX7_pull_89 (lv_at hl 0 rfl) ?_
            refine lv_if_eq (tgt := 100) hx hb dX7_pull_91 (by decide) (fun _ => ?_) (fun h => absurd (by decide) h)
            refine lv_iload_n hx hb dX7_pull_100 rfl (lv_at hl 5 rfl) ?_
            refine lv_istore (lv' := [(6, .int (nI r)), (5, .int 0), (4, .int (B a 4 r)), (3, .int ((h r) - (h (r + 1)))), (0, .ref m0), (1, .int (nI (130 * a))), (2, .int (nI r))]) hx hb dX7_pull_101 hl (by decide) rfl (fun ls hl => ?_)
            refine lv_aload_n hx hb dX7_pull_103 rfl (lv_at hl 4 rfl) ?_
            refine lv_iload_n hx hb dX7_pull_104 rfl (lv_at hl 5 rfl) ?_
            refine lv_iload hx hb dX7_pull_105 (lv_at hl 0 rfl) ?_
            refine kcallV (As := [.int (nI (130 * a)), .int (nI r)]) (rest := []) (Wn := [mdO m0 m1 m2 m3 th sv kp ln ca lt fi sd hs, arC cI m1 1170 (enc B), arC cI m2 60 T, arC cI m3 8 h]) X (c_X7_wants l D cI cZ cS cJ m0 m1 m2 m3 th sv kp ln ca lt fi sd hs B T h a r (by omega) (by omega)) (cwV 2 hts gX7_pull_X7_wants rfl rfl rfl (by decide +kernel) ⟨Nat.le_of_ble_eq_true rfl, Nat.le_of_ble_eq_true rfl⟩) hK hP hD hS hA [0, 1, 2, 3] rfl (by decide +kernel) rfl rfl rfl 0 7 rfl rfl rfl hl.1 rfl (Nat.le_of_ble_eq_true rfl) dX7_pull_107 ⟨Nat.le_of_ble_eq_true rfl, Nat.le_of_ble_eq_true rfl⟩ (fun H locs hP hD hS => ?_)
            refine lv_aload_n hx hb dX7_pull_110 rfl (lv_at hl 4 rfl) ?_
            refine va_get (D := D) (ci := 7) (v := .ref m3) (C := RX7) (T := TX7) (N := 12) hx hb hts hinX7 hown hK hP 0 rfl rfl 10 (by decide) (hts (.fieldLink RX7 16 "RibbonBalloonsModel" "heights" "[I") (by decide +kernel)) (fun _ h9 => h9) rfl dX7_pull_111 ?_
            refine lv_iload hx hb dX7_pull_114 (lv_at hl 0 rfl) ?_
            refine r_iald hx hb hK hP 3 0 r (f := h) rfl rfl (by omega) (by omega) dX7_pull_116 ?_
            refine lv_isub hx hb dX7_pull_117 ?_
            refine hend _ _ _ _ _ ?_ hP hD hS dX7_pull_118
            first | exact plR_v c30 (Or.inl c36) (by first | exact upR_1 c50 c67 | exact upR_2 c50 c67 | exact upR_3 c50 c79 | exact upR_4 c50 c79) | exact plR_v c30 (Or.inr c43) (by first | exact upR_1 c50 c67 | exact upR_2 c50 c67 | exact upR_3 c50 c79 | exact upR_4 c50 c79)
          · skip
            refine lv_iconst (v := 1) hx hb dX7_pull_70 (by decide) ?_
            refine lv_goto (tgt := 87) hx hb dX7_pull_71 (by decide) ?_
            refine lv_istore (lv' := [(5, .int 1), (4, .int (B a 4 r)), (3, .int ((h r) - (h (r + 1)))), (0, .ref m0), (1, .int (nI (130 * a))), (2, .int (nI r))]) hx hb dX7_pull_87 hl (by decide) rfl (fun ls hl => ?_)
            refine lv_iload hx hb dX7_pull_89 (lv_at hl 0 rfl) ?_
            refine lv_if_eq (tgt := 100) hx hb dX7_pull_91 (by decide) (fun h => absurd h (by decide)) (fun _ => ?_)
            refine lv_iload_n hx hb dX7_pull_94 rfl (lv_at hl 5 rfl) ?_
            refine lv_iconst (v := 1) hx hb dX7_pull_95 (by decide) ?_
            refine lv_iadd hx hb dX7_pull_96 ?_
            refine lv_eqi (y := nI (r + 1)) (nI_add _ _) ?_
            refine lv_goto (tgt := 101) hx hb dX7_pull_97 (by decide) ?_
            refine lv_istore (lv' := [(6, .int (nI (r + 1))), (5, .int 1), (4, .int (B a 4 r)), (3, .int ((h r) - (h (r + 1)))), (0, .ref m0), (1, .int (nI (130 * a))), (2, .int (nI r))]) hx hb dX7_pull_101 hl (by decide) rfl (fun ls hl => ?_)
            refine lv_aload_n hx hb dX7_pull_103 rfl (lv_at hl 4 rfl) ?_
            refine lv_iload_n hx hb dX7_pull_104 rfl (lv_at hl 5 rfl) ?_
            refine lv_iload hx hb dX7_pull_105 (lv_at hl 0 rfl) ?_
            refine kcallV (As := [.int (nI (130 * a)), .int (nI (r + 1))]) (rest := []) (Wn := [mdO m0 m1 m2 m3 th sv kp ln ca lt fi sd hs, arC cI m1 1170 (enc B), arC cI m2 60 T, arC cI m3 8 h]) X (c_X7_wants l D cI cZ cS cJ m0 m1 m2 m3 th sv kp ln ca lt fi sd hs B T h a (r + 1) (by omega) (by omega)) (cwV 2 hts gX7_pull_X7_wants rfl rfl rfl (by decide +kernel) ⟨Nat.le_of_ble_eq_true rfl, Nat.le_of_ble_eq_true rfl⟩) hK hP hD hS hA [0, 1, 2, 3] rfl (by decide +kernel) rfl rfl rfl 0 7 rfl rfl rfl hl.1 rfl (Nat.le_of_ble_eq_true rfl) dX7_pull_107 ⟨Nat.le_of_ble_eq_true rfl, Nat.le_of_ble_eq_true rfl⟩ (fun H locs hP hD hS => ?_)
            refine lv_aload_n hx hb dX7_pull_110 rfl (lv_at hl 4 rfl) ?_
            refine va_get (D := D) (ci := 7) (v := .ref m3) (C := RX7) (T := TX7) (N := 12) hx hb hts hinX7 hown hK hP 0 rfl rfl 10 (by decide) (hts (.fieldLink RX7 16 "RibbonBalloonsModel" "heights" "[I") (by decide +kernel)) (fun _ h9 => h9) rfl dX7_pull_111 ?_
            refine lv_iload hx hb dX7_pull_114 (lv_at hl 0 rfl) ?_
            refine r_iald hx hb hK hP 3 0 (r + 1) (f := h) rfl rfl (by omega) (by omega) dX7_pull_116 ?_
            refine lv_isub hx hb dX7_pull_117 ?_
            refine hend _ _ _ _ _ ?_ hP hD hS dX7_pull_118
            first | exact plR_v c30 (Or.inl c36) (by first | exact upR_1 c50 c67 | exact upR_2 c50 c67 | exact upR_3 c50 c79 | exact upR_4 c50 c79) | exact plR_v c30 (Or.inr c43) (by first | exact upR_1 c50 c67 | exact upR_2 c50 c67 | exact upR_3 c50 c79 | exact upR_4 c50 c79)
      · skip
        refine lv_iconst (v := 0) hx hb dX7_pull_46 (by decide) ?_
        refine hend _ _ _ _ _ ?_ hP hD hS dX7_pull_47
        first | exact plR_0 c30 | exact plR_z c30 c36 c43

set_option maxHeartbeats 4000000 in
set_option maxRecDepth 100000 in
theorem c_X7_snapping (l : Launch) (D : va_G) (cI cZ cS cJ : ClassId) (m0 : Nat) (m1 : Nat) (m2 : Nat) (m3 : Nat) (th : Int32) (sv : Int32) (kp : Int32) (ln : Int32) (ca : Int32) (lt : Int32) (fi : Int32) (sd : Int32) (hs : Int64) (B : Nat → Nat → Nat → Int32) (T : Nat → Int32) (h : Nat → Int32) (a : Nat) (ha : a ≤ 8) (hT : ∀ r, r < 7 → B a 3 r = 0 ∨ B a 3 r = 1) : C0 l yX7_snapping wsX7_snapping ({ frames := 4, cells := 0, slots := 0, locals := 94 }) D (tyL cI cZ cS cJ) [.ref m0, .int (nI (130 * a))] (List.flatten [mdO m0 m1 m2 m3 th sv kp ln ca lt fi sd hs, arC cI m1 1170 (enc B), arC cI m2 60 T, arC cI m3 8 h]) (some (.int ((snR (B a) (ht (B a)) 7).1))) (List.flatten [mdO m0 m1 m2 m3 th sv kp ln ca lt fi sd hs, arC cI m1 1170 (enc B), arC cI m2 60 T, arC cI m3 8 (ht (B a))]) 0 0 := by
  refine C0_int (cc := cX7_snapping) (maxL := 7) (rt := .int) (by decide) rfl (Nat.le_of_ble_eq_true rfl) (rfl) ?_
  intro p e s m below meth c A ls Q X hK hP hD hS hA hl hend
  have X : CallFix p m c cX7_snapping 7 s ([.ref m0, .int (nI (130 * a))] : List Value).toArray wsX7_snapping RX7 := X
  obtain ⟨hx, hb, hml, hown, hts⟩ := id X
  have hl : lv_has ls 7 [(0, .ref m0), (1, .int (nI (130 * a)))] := hl
  refine lv_aload_n hx hb dX7_snapping_0 rfl (lv_at hl 0 rfl) ?_
  refine lv_iload_n hx hb dX7_snapping_1 rfl (lv_at hl 1 rfl) ?_
  refine kcallV (As := [.int (nI (130 * a))]) (rest := []) (Wn := [mdO m0 m1 m2 m3 th sv kp ln ca lt fi sd hs, arC cI m1 1170 (enc B), arC cI m2 60 T, arC cI m3 8 (ht (B a))]) X (c_X7_rises l D cI cZ cS cJ m0 m1 m2 m3 th sv kp ln ca lt fi sd hs B T h a (by omega) hT) (cwV 1 hts gX7_snapping_X7_rises rfl rfl rfl (by decide +kernel) ⟨Nat.le_of_ble_eq_true rfl, Nat.le_of_ble_eq_true rfl⟩) hK hP hD hS hA [0, 1, 2, 3] rfl (by decide +kernel) rfl rfl rfl 0 7 rfl rfl rfl hl.1 rfl (Nat.le_of_ble_eq_true rfl) dX7_snapping_2 ⟨Nat.le_of_ble_eq_true rfl, Nat.le_of_ble_eq_true rfl⟩ (fun H locs hP hD hS => ?_)
  refine lv_sipush (v := (-1000)) hx hb dX7_snapping_5 (by decide) ?_
  refine lv_istore_n (lv' := [(2, .int (-1000)), (0, .ref m0), (1, .int (nI (130 * a)))]) hx hb dX7_snapping_8 rfl hl (by decide) rfl (fun ls hl => ?_)
  refine lv_iconst (v := 0) hx hb dX7_snapping_9 (by decide) ?_
  refine lv_istore_n (lv' := [(3, .int 0), (2, .int (-1000)), (0, .ref m0), (1, .int (nI (130 * a)))]) hx hb dX7_snapping_10 rfl hl (by decide) rfl (fun ls hl => ?_)
  refine lv_iconst (v := 0) hx hb dX7_snapping_11 (by decide) ?_
  refine lv_istore (lv' := [(4, .int 0), (3, .int 0), (2, .int (-1000)), (0, .ref m0), (1, .int (nI (130 * a)))]) hx hb dX7_snapping_12 hl (by decide) rfl (fun ls hl => ?_)
  have lp_14 : ∀ (nn : Nat) (i : Nat), True → (i ≤ 7) → 7 - i < nn → ∀ (H : Heap) (locs : List Loc) (ls : Array Slot), va_P D vwCl (List.flatten [mdO m0 m1 m2 m3 th sv kp ln ca lt fi sd hs, arC cI m1 1170 (enc B), arC cI m2 60 T, arC cI m3 8 (ht (B a))]) H → va_D A (List.flatten [mdO m0 m1 m2 m3 th sv kp ln ca lt fi sd hs, arC cI m1 1170 (enc B), arC cI m2 60 T, arC cI m3 8 (ht (B a))]) → va_S A s.heap H locs → lv_has ls 7 [(0, .ref m0), (1, .int (nI (130 * a))), (2, .int ((snR (B a) (ht (B a)) i).1)), (3, .int ((snR (B a) (ht (B a)) i).2)), (4, .int (nI i))] → W p l e ({ frames := 4, cells := 0, slots := 0, locals := 94 } : Room) s m ([.ref m0, .int (nI (130 * a))] : List Value).toArray below meth c H locs 0 0 Q (F0 m 14 ls []) := by
    intro nn
    induction nn with
    | zero => intro i _ hi hmz; exact absurd hmz (Nat.not_lt_zero _)
    | succ nn ih =>
      intro i _ hi hms H locs ls hP hD hS hl
      refine lv_iload hx hb dX7_snapping_14 (lv_at hl 4 rfl) ?_
      refine lv_bipush (v := 7) hx hb dX7_snapping_16 (by decide) ?_
      refine n_ge (i := i) (j := 7) (tgt := 85) hx hb (by omega) (by omega) dX7_snapping_18 (by decide) (fun c18 => ?_) (fun c18 => ?_)
      · skip
        refine lv_iload_n hx hb dX7_snapping_85 rfl (lv_at hl 2 rfl) ?_
        refine hend _ _ _ _ _ ?_ hP hD hS dX7_snapping_86
        rw [show i = 7 by omega]
      · skip
        refine lv_aload_n hx hb dX7_snapping_21 rfl (lv_at hl 0 rfl) ?_
        refine lv_iload_n hx hb dX7_snapping_22 rfl (lv_at hl 1 rfl) ?_
        refine lv_iload hx hb dX7_snapping_23 (lv_at hl 4 rfl) ?_
        refine kcallV (As := [.int (nI (130 * a)), .int (nI i)]) (rest := []) (Wn := [mdO m0 m1 m2 m3 th sv kp ln ca lt fi sd hs, arC cI m1 1170 (enc B), arC cI m2 60 T, arC cI m3 8 (ht (B a))]) X (c_X7_pull l D cI cZ cS cJ m0 m1 m2 m3 th sv kp ln ca lt fi sd hs B T (ht (B a)) a i (by omega) (by omega) hT) (cwV 2 hts gX7_snapping_X7_pull rfl rfl rfl (by decide +kernel) ⟨Nat.le_of_ble_eq_true rfl, Nat.le_of_ble_eq_true rfl⟩) hK hP hD hS hA [0, 1, 2, 3] rfl (by decide +kernel) rfl rfl rfl 0 7 rfl rfl rfl hl.1 rfl (Nat.le_of_ble_eq_true rfl) dX7_snapping_25 ⟨Nat.le_of_ble_eq_true rfl, Nat.le_of_ble_eq_true rfl⟩ (fun H locs hP hD hS => ?_)
        refine lv_istore (lv' := [(5, .int (plR (B a) (ht (B a)) i)), (0, .ref m0), (1, .int (nI (130 * a))), (2, .int ((snR (B a) (ht (B a)) i).1)), (3, .int ((snR (B a) (ht (B a)) i).2)), (4, .int (nI i))]) hx hb dX7_snapping_28 hl (by decide) rfl (fun ls hl => ?_)
        refine lv_iload hx hb dX7_snapping_30 (lv_at hl 0 rfl) ?_
        refine lv_aload_n hx hb dX7_snapping_32 rfl (lv_at hl 1 rfl) ?_
        refine lv_iload_n hx hb dX7_snapping_33 rfl (lv_at hl 2 rfl) ?_
        refine lv_iload hx hb dX7_snapping_34 (lv_at hl 5 rfl) ?_
        refine kcallV (As := [.int (nI (130 * a)), .int (nI i)]) (rest := [.int (plR (B a) (ht (B a)) i)]) (Wn := [mdO m0 m1 m2 m3 th sv kp ln ca lt fi sd hs, arC cI m1 1170 (enc B), arC cI m2 60 T, arC cI m3 8 (ht (B a))]) X (c_X7_bears l D cI cZ cS cJ m0 m1 m2 m3 th sv kp ln ca lt fi sd hs B T (ht (B a)) a i (by omega) (by omega)) (cwV 2 hts gX7_snapping_X7_bears rfl rfl rfl (by decide +kernel) ⟨Nat.le_of_ble_eq_true rfl, Nat.le_of_ble_eq_true rfl⟩) hK hP hD hS hA [0, 1, 2, 3] rfl (by decide +kernel) rfl rfl rfl 0 7 rfl rfl rfl hl.1 rfl (Nat.le_of_ble_eq_true rfl) dX7_snapping_36 ⟨Nat.le_of_ble_eq_true rfl, Nat.le_of_ble_eq_true rfl⟩ (fun H locs hP hD hS => ?_)
        refine lv_icmp_le (tgt := 52) hx hb dX7_snapping_39 (by decide) (fun c39 => ?_) (fun c39 => ?_)
        · skip
          refine lv_iconst (v := 0) hx hb dX7_snapping_52 (by decide) ?_
          refine lv_istore (lv' := [(6, .int 0), (5, .int (plR (B a) (ht (B a)) i)), (0, .ref m0), (1, .int (nI (130 * a))), (2, .int ((snR (B a) (ht (B a)) i).1)), (3, .int ((snR (B a) (ht (B a)) i).2)), (4, .int (nI i))]) hx hb dX7_snapping_53 hl (by decide) rfl (fun ls hl => ?_)
          refine lv_iload hx hb dX7_snapping_55 (lv_at hl 0 rfl) ?_
          refine lv_if_eq (tgt := 65) hx hb dX7_snapping_57 (by decide) (fun _ => ?_) (fun h => absurd (by decide) h)
          refine lv_iload_n hx hb dX7_snapping_65 rfl (lv_at hl 4 rfl) ?_
          refine lv_istore_n (lv' := [(2, .int ((snR (B a) (ht (B a)) i).1)), (6, .int 0), (5, .int (plR (B a) (ht (B a)) i)), (0, .ref m0), (1, .int (nI (130 * a))), (3, .int ((snR (B a) (ht (B a)) i).2)), (4, .int (nI i))]) hx hb dX7_snapping_66 rfl hl (by decide) rfl (fun ls hl => ?_)
          refine lv_iload hx hb dX7_snapping_67 (lv_at hl 1 rfl) ?_
          refine lv_if_eq (tgt := 77) hx hb dX7_snapping_69 (by decide) (fun _ => ?_) (fun h => absurd (by decide) h)
          refine lv_iload_n hx hb dX7_snapping_77 rfl (lv_at hl 5 rfl) ?_
          refine lv_istore_n (lv' := [(3, .int ((snR (B a) (ht (B a)) i).2)), (2, .int ((snR (B a) (ht (B a)) i).1)), (6, .int 0), (5, .int (plR (B a) (ht (B a)) i)), (0, .ref m0), (1, .int (nI (130 * a))), (4, .int (nI i))]) hx hb dX7_snapping_78 rfl hl (by decide) rfl (fun ls hl => ?_)
          refine lv_iinc (v := nI (i + 1)) (lv' := [(4, .int (nI (i + 1))), (3, .int ((snR (B a) (ht (B a)) i).2)), (2, .int ((snR (B a) (ht (B a)) i).1)), (6, .int 0), (5, .int (plR (B a) (ht (B a)) i)), (0, .ref m0), (1, .int (nI (130 * a)))]) hx hb dX7_snapping_79 hl (k := 6) rfl (nI_add _ _) (by decide) rfl (fun ls hl => ?_)
          refine lv_goto (tgt := 14) hx hb dX7_snapping_82 (by decide) ?_
          have hl : lv_has ls 7 [(4, .int (nI (i + 1))), (3, .int ((snR (B a) (ht (B a)) i).2)), (2, .int ((snR (B a) (ht (B a)) (i + 1)).1)), (6, .int 0), (5, .int (plR (B a) (ht (B a)) i)), (0, .ref m0), (1, .int (nI (130 * a)))] := lv_re hl 2 (x := (snR (B a) (ht (B a)) i).1) (y := (snR (B a) (ht (B a)) (i + 1)).1) rfl (by first | rw [snR_y c39 c45] | rw [snR_1 c39] | rw [snR_2 c45]) rfl
          have hl : lv_has ls 7 [(4, .int (nI (i + 1))), (3, .int ((snR (B a) (ht (B a)) (i + 1)).2)), (2, .int ((snR (B a) (ht (B a)) (i + 1)).1)), (6, .int 0), (5, .int (plR (B a) (ht (B a)) i)), (0, .ref m0), (1, .int (nI (130 * a)))] := lv_re hl 1 (x := (snR (B a) (ht (B a)) i).2) (y := (snR (B a) (ht (B a)) (i + 1)).2) rfl (by first | rw [snR_y c39 c45] | rw [snR_1 c39] | rw [snR_2 c45]) rfl
          exact ih  (i + 1) trivial (by omega) (by omega) _ _ _ hP hD hS (lv_sub hl [5, 6, 2, 1, 0] rfl)
        · skip
          refine lv_iload hx hb dX7_snapping_42 (lv_at hl 0 rfl) ?_
          refine lv_iload_n hx hb dX7_snapping_44 rfl (lv_at hl 4 rfl) ?_
          refine lv_icmp_le (tgt := 52) hx hb dX7_snapping_45 (by decide) (fun c45 => ?_) (fun c45 => ?_)
          · skip
            refine lv_iconst (v := 0) hx hb dX7_snapping_52 (by decide) ?_
            refine lv_istore (lv' := [(6, .int 0), (5, .int (plR (B a) (ht (B a)) i)), (0, .ref m0), (1, .int (nI (130 * a))), (2, .int ((snR (B a) (ht (B a)) i).1)), (3, .int ((snR (B a) (ht (B a)) i).2)), (4, .int (nI i))]) hx hb dX7_snapping_53 hl (by decide) rfl (fun ls hl => ?_)
            refine lv_iload hx hb dX7_snapping_55 (lv_at hl 0 rfl) ?_
            refine lv_if_eq (tgt := 65) hx hb dX7_snapping_57 (by decide) (fun _ => ?_) (fun h => absurd (by decide) h)
            refine lv_iload_n hx hb dX7_snapping_65 rfl (lv_at hl 4 rfl) ?_
            refine lv_istore_n (lv' := [(2, .int ((snR (B a) (ht (B a)) i).1)), (6, .int 0), (5, .int (plR (B a) (ht (B a)) i)), (0, .ref m0), (1, .int (nI (130 * a))), (3, .int ((snR (B a) (ht (B a)) i).2)), (4, .int (nI i))]) hx hb dX7_snapping_66 rfl hl (by decide) rfl (fun ls hl => ?_)
            refine lv_iload hx hb dX7_snapping_67 (lv_at hl 1 rfl) ?_
            refine lv_if_eq (tgt := 77) hx hb dX7_snapping_69 (by decide) (fun _ => ?_) (fun h => absurd (by decide) h)
            refine lv_iload_n hx hb dX7_snapping_77 rfl (lv_at hl 5 rfl) ?_
            refine lv_istore_n (lv' := [(3, .int ((snR (B a) (ht (B a)) i).2)), (2, .int ((snR (B a) (ht (B a)) i).1)), (6, .int 0), (5, .int (plR (B a) (ht (B a)) i)), (0, .ref m0), (1, .int (nI (130 * a))), (4, .int (nI i))]) hx hb dX7_snapping_78 rfl hl (by decide) rfl (fun ls hl => ?_)
            refine lv_iinc (v := nI (i + 1)) (lv' := [(4, .int (nI (i + 1))), (3, .int ((snR (B a) (ht (B a)) i).2)), (2, .int ((snR (B a) (ht (B a)) i).1)), (6, .int 0), (5, .int (plR (B a) (ht (B a)) i)), (0, .ref m0), (1, .int (nI (130 * a)))]) hx hb dX7_snapping_79 hl (k := 6) rfl (nI_add _ _) (by decide) rfl (fun ls hl => ?_)
            refine lv_goto (tgt := 14) hx hb dX7_snapping_82 (by decide) ?_
            have hl : lv_has ls 7 [(4, .int (nI (i + 1))), (3, .int ((snR (B a) (ht (B a)) i).2)), (2, .int ((snR (B a) (ht (B a)) (i + 1)).1)), (6, .int 0), (5, .int (plR (B a) (ht (B a)) i)), (0, .ref m0), (1, .int (nI (130 * a)))] := lv_re hl 2 (x := (snR (B a) (ht (B a)) i).1) (y := (snR (B a) (ht (B a)) (i + 1)).1) rfl (by first | rw [snR_y c39 c45] | rw [snR_1 c39] | rw [snR_2 c45]) rfl
            have hl : lv_has ls 7 [(4, .int (nI (i + 1))), (3, .int ((snR (B a) (ht (B a)) (i + 1)).2)), (2, .int ((snR (B a) (ht (B a)) (i + 1)).1)), (6, .int 0), (5, .int (plR (B a) (ht (B a)) i)), (0, .ref m0), (1, .int (nI (130 * a)))] := lv_re hl 1 (x := (snR (B a) (ht (B a)) i).2) (y := (snR (B a) (ht (B a)) (i + 1)).2) rfl (by first | rw [snR_y c39 c45] | rw [snR_1 c39] | rw [snR_2 c45]) rfl
            exact ih  (i + 1) trivial (by omega) (by omega) _ _ _ hP hD hS (lv_sub hl [5, 6, 2, 1, 0] rfl)
          · skip
            refine lv_iconst (v := 1) hx hb dX7_snapping_48 (by decide) ?_
            refine lv_goto (tgt := 53) hx hb dX7_snapping_49 (by decide) ?_
            refine lv_istore (lv' := [(6, .int 1), (5, .int (plR (B a) (ht (B a)) i)), (0, .ref m0), (1, .int (nI (130 * a))), (2, .int ((snR (B a) (ht (B a)) i).1)), (3, .int ((snR (B a) (ht (B a)) i).2)), (4, .int (nI i))]) hx hb dX7_snapping_53 hl (by decide) rfl (fun ls hl => ?_)
            refine lv_iload hx hb dX7_snapping_55 (lv_at hl 0 rfl) ?_
            refine lv_if_eq (tgt := 65) hx hb dX7_snapping_57 (by decide) (fun h => absurd h (by decide)) (fun _ => ?_)
            refine lv_iload hx hb dX7_snapping_60 (lv_at hl 6 rfl) ?_
            refine lv_goto (tgt := 66) hx hb dX7_snapping_62 (by decide) ?_
            refine lv_istore_n (lv' := [(2, .int (nI i)), (6, .int 1), (5, .int (plR (B a) (ht (B a)) i)), (0, .ref m0), (1, .int (nI (130 * a))), (3, .int ((snR (B a) (ht (B a)) i).2)), (4, .int (nI i))]) hx hb dX7_snapping_66 rfl hl (by decide) rfl (fun ls hl => ?_)
            refine lv_iload hx hb dX7_snapping_67 (lv_at hl 1 rfl) ?_
            refine lv_if_eq (tgt := 77) hx hb dX7_snapping_69 (by decide) (fun h => absurd h (by decide)) (fun _ => ?_)
            refine lv_iload hx hb dX7_snapping_72 (lv_at hl 2 rfl) ?_
            refine lv_goto (tgt := 78) hx hb dX7_snapping_74 (by decide) ?_
            refine lv_istore_n (lv' := [(3, .int (plR (B a) (ht (B a)) i)), (2, .int (nI i)), (6, .int 1), (5, .int (plR (B a) (ht (B a)) i)), (0, .ref m0), (1, .int (nI (130 * a))), (4, .int (nI i))]) hx hb dX7_snapping_78 rfl hl (by decide) rfl (fun ls hl => ?_)
            refine lv_iinc (v := nI (i + 1)) (lv' := [(4, .int (nI (i + 1))), (3, .int (plR (B a) (ht (B a)) i)), (2, .int (nI i)), (6, .int 1), (5, .int (plR (B a) (ht (B a)) i)), (0, .ref m0), (1, .int (nI (130 * a)))]) hx hb dX7_snapping_79 hl (k := 6) rfl (nI_add _ _) (by decide) rfl (fun ls hl => ?_)
            refine lv_goto (tgt := 14) hx hb dX7_snapping_82 (by decide) ?_
            have hl : lv_has ls 7 [(4, .int (nI (i + 1))), (3, .int (plR (B a) (ht (B a)) i)), (2, .int ((snR (B a) (ht (B a)) (i + 1)).1)), (6, .int 1), (5, .int (plR (B a) (ht (B a)) i)), (0, .ref m0), (1, .int (nI (130 * a)))] := lv_re hl 2 (x := nI i) (y := (snR (B a) (ht (B a)) (i + 1)).1) rfl (by first | rw [snR_y c39 c45] | rw [snR_1 c39] | rw [snR_2 c45]) rfl
            have hl : lv_has ls 7 [(4, .int (nI (i + 1))), (3, .int ((snR (B a) (ht (B a)) (i + 1)).2)), (2, .int ((snR (B a) (ht (B a)) (i + 1)).1)), (6, .int 1), (5, .int (plR (B a) (ht (B a)) i)), (0, .ref m0), (1, .int (nI (130 * a)))] := lv_re hl 1 (x := plR (B a) (ht (B a)) i) (y := (snR (B a) (ht (B a)) (i + 1)).2) rfl (by first | rw [snR_y c39 c45] | rw [snR_1 c39] | rw [snR_2 c45]) rfl
            exact ih  (i + 1) trivial (by omega) (by omega) _ _ _ hP hD hS (lv_sub hl [5, 6, 2, 1, 0] rfl)
  exact lp_14 (7 - 0 + 1) 0 trivial (by omega) (Nat.lt_succ_self _) _ _ _ hP hD hS (lv_sub hl [3, 4, 2, 1, 0] rfl)

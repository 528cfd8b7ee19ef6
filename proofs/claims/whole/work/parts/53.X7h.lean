set_option maxHeartbeats 4000000 in
set_option maxRecDepth 100000 in
theorem c_X7_cuts (l : Launch) (D : va_G) (cI cZ cS cJ : ClassId) (m0 : Nat) (m1 : Nat) (m2 : Nat) (m3 : Nat) (th : Int32) (sv : Int32) (kp : Int32) (ln : Int32) (ca : Int32) (lt : Int32) (fi : Int32) (sd : Int32) (hs : Int64) (B : Nat → Nat → Nat → Int32) (T : Nat → Int32) (h : Nat → Int32) (r : Nat) (hr7 : r < 7) (hT : ∀ r, r < 7 → B 0 3 r = 0 ∨ B 0 3 r = 1) : CE (U := (Nat → Int32)) l yX7_cuts wsX7_cuts ({ frames := 5, cells := 0, slots := 0, locals := 113 }) D (tyL cI cZ cS cJ) [.ref m0, .int (nI r)] (List.flatten [mdO m0 m1 m2 m3 th sv kp ln ca lt fi sd hs, arC cI m1 1170 (enc B), arC cI m2 60 T, arC cI m3 8 h]) (fun u => True) (fun u => some (.int (hsm (mended (cutS (B 0) r)) - (hsm (B 0))))) (fun u => List.flatten [mdO m0 m1 m2 m3 th sv kp ln ca lt fi sd hs, arC cI m1 1170 (enc (uA B 0 (mended (cutS (B 0) r)))), arC cI m2 60 T, arC cI m3 8 u]) 0 0 := by
  refine CE_int (cc := cX7_cuts) (maxL := 3) (rt := .int) (by decide) rfl (Nat.le_of_ble_eq_true rfl) (fun _ _ => rfl) ?_
  intro p e s m below meth c A ls Q X hK hP hD hS hA hl hend
  have X : CallFix p m c cX7_cuts 3 s ([.ref m0, .int (nI r)] : List Value).toArray wsX7_cuts RX7 := X
  obtain ⟨hx, hb, hml, hown, hts⟩ := id X
  have hl : lv_has ls 3 [(0, .ref m0), (1, .int (nI r))] := hl
  have hinX7 : ∀ w ∈ u_ws RX7 TX7 12, w ∈ wsX7_cuts := by decide +kernel
  refine lv_aload_n hx hb dX7_cuts_0 rfl (lv_at hl 0 rfl) ?_
  refine lv_iconst (v := 0) hx hb dX7_cuts_1 (by decide) ?_
  refine lv_eqi (y := nI (130 * 0)) (rfl) ?_
  refine kcallV (As := [.int (nI (130 * 0))]) (rest := []) (Wn := [mdO m0 m1 m2 m3 th sv kp ln ca lt fi sd hs, arC cI m1 1170 (enc B), arC cI m2 60 T, arC cI m3 8 (ht (B 0))]) X (c_X7_allHeights l D cI cZ cS cJ m0 m1 m2 m3 th sv kp ln ca lt fi sd hs B T h 0 (by omega) hT) (cwV 1 hts gX7_cuts_X7_allHeights rfl rfl rfl (by decide +kernel) ⟨Nat.le_of_ble_eq_true rfl, Nat.le_of_ble_eq_true rfl⟩) hK hP hD hS hA [0, 1, 2, 3] rfl (by decide +kernel) rfl rfl rfl 0 7 rfl rfl rfl hl.1 rfl (Nat.le_of_ble_eq_true rfl) dX7_cuts_2 ⟨Nat.le_of_ble_eq_true rfl, Nat.le_of_ble_eq_true rfl⟩ (fun H locs hP hD hS => ?_)
  refine lv_istore_n (lv' := [(2, .int (hsm (B 0))), (0, .ref m0), (1, .int (nI r))]) hx hb dX7_cuts_5 rfl hl (by decide) rfl (fun ls hl => ?_)
  refine lv_aload_n hx hb dX7_cuts_6 rfl (lv_at hl 1 rfl) ?_
  refine va_get (D := D) (ci := 7) (v := .ref m1) (C := RX7) (T := TX7) (N := 12) hx hb hts hinX7 hown hK hP 0 rfl rfl 1 (by decide) (hts (.fieldLink RX7 7 "RibbonBalloonsModel" "s" "[I") (by decide +kernel)) (fun _ h9 => h9) rfl dX7_cuts_7 ?_
  refine lv_bipush (v := 49) hx hb dX7_cuts_10 (by decide) ?_
  refine lv_iconst (v := 3) hx hb dX7_cuts_12 (by decide) ?_
  refine lv_iload_n hx hb dX7_cuts_13 rfl (lv_at hl 2 rfl) ?_
  refine lv_imul hx hb dX7_cuts_14 ?_
  refine lv_eqi (y := nI (3 * r)) (pk_mul _ _) ?_
  refine lv_iadd hx hb dX7_cuts_15 ?_
  refine lv_eqi (y := nI (49 + (3 * r))) (nI_add _ _) ?_
  refine lv_iconst (v := 0) hx hb dX7_cuts_16 (by decide) ?_
  refine r_iast hx hb hK hP hD hS 1 0 (49 + (3 * r)) (f := enc B) (x := 0) (wn := List.flatten [mdO m0 m1 m2 m3 th sv kp ln ca lt fi sd hs, arC cI m1 1170 (upd (enc B) (49 + (3 * r)) 0), arC cI m2 60 T, arC cI m3 8 (ht (B 0))]) rfl rfl (by omega) (by omega) rfl dX7_cuts_17 (fun H locs hP hD hS => ?_)
  obtain ⟨hP, hD⟩ := PD_cg hP hD 1 (enc (uA B 0 (mended (cutS (B 0) r)))) rfl (fun j _ => cut_e B hr7 j) (wn := List.flatten [mdO m0 m1 m2 m3 th sv kp ln ca lt fi sd hs, arC cI m1 1170 (enc (uA B 0 (mended (cutS (B 0) r)))), arC cI m2 60 T, arC cI m3 8 (ht (B 0))]) rfl
  refine lv_aload_n hx hb dX7_cuts_18 rfl (lv_at hl 1 rfl) ?_
  refine lv_iconst (v := 0) hx hb dX7_cuts_19 (by decide) ?_
  refine lv_eqi (y := nI (130 * 0)) (rfl) ?_
  refine kcallV (As := [.int (nI (130 * 0))]) (rest := []) (Wn := [mdO m0 m1 m2 m3 th sv kp ln ca lt fi sd hs, arC cI m1 1170 (enc (uA B 0 (mended (cutS (B 0) r)))), arC cI m2 60 T, arC cI m3 8 (ht ((uA B 0 (mended (cutS (B 0) r))) 0))]) X (c_X7_allHeights l D cI cZ cS cJ m0 m1 m2 m3 th sv kp ln ca lt fi sd hs (uA B 0 (mended (cutS (B 0) r))) T (ht (B 0)) 0 (by omega) (by rw [uA_s]; exact cut01 hT)) (cwV 1 hts gX7_cuts_X7_allHeights rfl rfl rfl (by decide +kernel) ⟨Nat.le_of_ble_eq_true rfl, Nat.le_of_ble_eq_true rfl⟩) hK hP hD hS hA [0, 1, 2, 3] rfl (by decide +kernel) rfl rfl rfl 0 7 rfl rfl rfl hl.1 rfl (Nat.le_of_ble_eq_true rfl) dX7_cuts_20 ⟨Nat.le_of_ble_eq_true rfl, Nat.le_of_ble_eq_true rfl⟩ (fun H locs hP hD hS => ?_)
  refine lv_eqi (y := hsm (mended (cutS (B 0) r))) (by rw [uA_s]) ?_
  refine lv_iload_n hx hb dX7_cuts_23 rfl (lv_at hl 0 rfl) ?_
  refine lv_isub hx hb dX7_cuts_24 ?_
  refine hend (ht ((uA B 0 (mended (cutS (B 0) r))) 0)) _ _ _ _ _ trivial ?_ hP hD hS dX7_cuts_25
  exact rfl

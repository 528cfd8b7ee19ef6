set_option maxHeartbeats 4000000 in
set_option maxRecDepth 100000 in
theorem c_X7_sign (l : Launch) (D : va_G) (cI cZ cS cJ : ClassId) (m0 : Nat) (m1 : Nat) (m2 : Nat) (m3 : Nat) (th : Int32) (sv : Int32) (kp : Int32) (lt : Int32) (fi : Int32) (sd : Int32) (hs : Int64) (B : Nat → Nat → Nat → Int32) (T : Nat → Int32) (h : Nat → Int32) (n : Nat) (i : Nat) (hn60 : n ≤ 60) (hin : i ≤ n) : C0 l yX7_sign wsX7_sign ({ frames := 0, cells := 0, slots := 0, locals := 0 }) D (tyL cI cZ cS cJ) [.ref m0] (List.flatten [mdO m0 m1 m2 m3 th sv kp (nI n) (nI i) lt fi sd hs, arC cI m1 1170 (enc B), arC cI m2 60 T, arC cI m3 8 h]) (some (.int (cod T n i))) (List.flatten [mdO m0 m1 m2 m3 th sv kp (nI n) (nI i) lt fi sd hs, arC cI m1 1170 (enc B), arC cI m2 60 T, arC cI m3 8 h]) 0 0 := by
  refine C0_int (cc := cX7_sign) (maxL := 1) (rt := .int) (by decide) rfl (Nat.le_of_ble_eq_true rfl) (rfl) ?_
  intro p e s m below meth c A ls Q X hK hP hD hS hA hl hend
  have X : CallFix p m c cX7_sign 1 s ([.ref m0] : List Value).toArray wsX7_sign RX7 := X
  obtain ⟨hx, hb, hml, hown, hts⟩ := id X
  have hl : lv_has ls 1 [(0, .ref m0)] := hl
  have hinX7 : ∀ w ∈ u_ws RX7 TX7 12, w ∈ wsX7_sign := by decide +kernel
  refine lv_aload_n hx hb dX7_sign_0 rfl (lv_at hl 0 rfl) ?_
  refine va_get (D := D) (ci := 7) (v := .int (nI i)) (C := RX7) (T := TX7) (N := 12) hx hb hts hinX7 hown hK hP 0 rfl rfl 6 (by decide) (hts (.fieldLink RX7 155 "RibbonBalloonsModel" "at" "I") (by decide +kernel)) (fun _ h9 => h9) rfl dX7_sign_1 ?_
  refine lv_aload_n hx hb dX7_sign_4 rfl (lv_at hl 0 rfl) ?_
  refine va_get (D := D) (ci := 7) (v := .int (nI n)) (C := RX7) (T := TX7) (N := 12) hx hb hts hinX7 hown hK hP 0 rfl rfl 5 (by decide) (hts (.fieldLink RX7 152 "RibbonBalloonsModel" "length" "I") (by decide +kernel)) (fun _ h9 => h9) rfl dX7_sign_5 ?_
  refine n_ge (i := i) (j := n) (tgt := 23) hx hb (by omega) (by omega) dX7_sign_8 (by decide) (fun c8 => ?_) (fun c8 => ?_)
  · skip
    refine lv_iconst (v := 0) hx hb dX7_sign_23 (by decide) ?_
    refine hend _ _ _ _ _ ?_ hP hD hS dX7_sign_24
    first | exact (if_pos (by omega)).symm | exact (if_neg (by omega)).symm
  · skip
    refine lv_aload_n hx hb dX7_sign_11 rfl (lv_at hl 0 rfl) ?_
    refine va_get (D := D) (ci := 7) (v := .ref m2) (C := RX7) (T := TX7) (N := 12) hx hb hts hinX7 hown hK hP 0 rfl rfl 4 (by decide) (hts (.fieldLink RX7 13 "RibbonBalloonsModel" "text" "[I") (by decide +kernel)) (fun _ h9 => h9) rfl dX7_sign_12 ?_
    refine lv_aload_n hx hb dX7_sign_15 rfl (lv_at hl 0 rfl) ?_
    refine va_get (D := D) (ci := 7) (v := .int (nI i)) (C := RX7) (T := TX7) (N := 12) hx hb hts hinX7 hown hK hP 0 rfl rfl 6 (by decide) (hts (.fieldLink RX7 155 "RibbonBalloonsModel" "at" "I") (by decide +kernel)) (fun _ h9 => h9) rfl dX7_sign_16 ?_
    refine r_iald hx hb hK hP 2 0 i (f := T) rfl rfl (by omega) (by omega) dX7_sign_19 ?_
    refine lv_goto (tgt := 24) hx hb dX7_sign_20 (by decide) ?_
    refine hend _ _ _ _ _ ?_ hP hD hS dX7_sign_24
    first | exact (if_pos (by omega)).symm | exact (if_neg (by omega)).symm

set_option maxHeartbeats 4000000 in
set_option maxRecDepth 100000 in
theorem c_X7_takes (l : Launch) (D : va_G) (cI cZ cS cJ : ClassId) (m0 : Nat) (m1 : Nat) (m2 : Nat) (m3 : Nat) (th : Int32) (sv : Int32) (kp : Int32) (lt : Int32) (fi : Int32) (sd : Int32) (hs : Int64) (B : Nat → Nat → Nat → Int32) (T : Nat → Int32) (h : Nat → Int32) (n : Nat) (i : Nat) (x : Int32) (hn60 : n ≤ 60) (hin : i ≤ n) : C0 l yX7_takes wsX7_takes ({ frames := 1, cells := 0, slots := 0, locals := 20 }) D (tyL cI cZ cS cJ) [.ref m0, .int x] (List.flatten [mdO m0 m1 m2 m3 th sv kp (nI n) (nI i) lt fi sd hs, arC cI m1 1170 (enc B), arC cI m2 60 T, arC cI m3 8 h]) (some (.int (b1 (cod T n i = x)))) (List.flatten [mdO m0 m1 m2 m3 th sv kp (nI n) (nI (tkp T n i x)) lt fi sd hs, arC cI m1 1170 (enc B), arC cI m2 60 T, arC cI m3 8 h]) 0 0 := by
  refine C0_int (cc := cX7_takes) (maxL := 3) (rt := .boolean) (by decide) rfl (Nat.le_of_ble_eq_true rfl) (nar_b1 _) ?_
  intro p e s m below meth c A ls Q X hK hP hD hS hA hl hend
  have X : CallFix p m c cX7_takes 3 s ([.ref m0, .int x] : List Value).toArray wsX7_takes RX7 := X
  obtain ⟨hx, hb, hml, hown, hts⟩ := id X
  have hl : lv_has ls 3 [(0, .ref m0), (1, .int x)] := hl
  have hinX7 : ∀ w ∈ u_ws RX7 TX7 12, w ∈ wsX7_takes := by decide +kernel
  refine lv_aload_n hx hb dX7_takes_0 rfl (lv_at hl 0 rfl) ?_
  refine kcallV (As := []) (rest := []) (Wn := [mdO m0 m1 m2 m3 th sv kp (nI n) (nI i) lt fi sd hs, arC cI m1 1170 (enc B), arC cI m2 60 T, arC cI m3 8 h]) X (c_X7_sign l D cI cZ cS cJ m0 m1 m2 m3 th sv kp lt fi sd hs B T h n i (by omega) (by omega)) (cwV 0 hts gX7_takes_X7_sign rfl rfl rfl (by decide +kernel) ⟨Nat.le_of_ble_eq_true rfl, Nat.le_of_ble_eq_true rfl⟩) hK hP hD hS hA [0, 1, 2, 3] rfl (by decide +kernel) rfl rfl rfl 0 7 rfl rfl rfl hl.1 rfl (Nat.le_of_ble_eq_true rfl) dX7_takes_1 ⟨Nat.le_of_ble_eq_true rfl, Nat.le_of_ble_eq_true rfl⟩ (fun H locs hP hD hS => ?_)
  refine lv_iload_n hx hb dX7_takes_4 rfl (lv_at hl 1 rfl) ?_
  refine lv_icmp_ne (tgt := 12) hx hb dX7_takes_5 (by decide) (fun c5 => ?_) (fun c5 => ?_)
  · skip
    refine lv_iconst (v := 0) hx hb dX7_takes_12 (by decide) ?_
    refine lv_istore_n (lv' := [(2, .int 0), (0, .ref m0), (1, .int x)]) hx hb dX7_takes_13 rfl hl (by decide) rfl (fun ls hl => ?_)
    refine lv_aload_n hx hb dX7_takes_14 rfl (lv_at hl 1 rfl) ?_
    refine lv_dup hx hb dX7_takes_15 rfl ?_
    refine va_get (D := D) (ci := 7) (v := .int (nI i)) (C := RX7) (T := TX7) (N := 12) hx hb hts hinX7 hown hK hP 0 rfl rfl 6 (by decide) (hts (.fieldLink RX7 155 "RibbonBalloonsModel" "at" "I") (by decide +kernel)) (fun _ h9 => h9) rfl dX7_takes_16 ?_
    refine lv_iload_n hx hb dX7_takes_19 rfl (lv_at hl 0 rfl) ?_
    refine lv_if_eq (tgt := 27) hx hb dX7_takes_20 (by decide) (fun _ => ?_) (fun h => absurd (by decide) h)
    refine lv_iconst (v := 0) hx hb dX7_takes_27 (by decide) ?_
    refine lv_iadd hx hb dX7_takes_28 ?_
    refine lv_eqi (y := nI (i + 0)) (nI_add _ _) ?_
    refine va_put (D := D) (ci := 7) (v := .int (nI (i + 0))) (ty := .int) (C := RX7) (T := TX7) (N := 12) hx hb hts hinX7 tyX7 tyX7_ok nmX7 hown hK hP hD hS 0 rfl rfl 6 (by decide) (hts (.fieldLink RX7 155 "RibbonBalloonsModel" "at" "I") (by decide +kernel)) (fun _ h9 => h9) rfl (by decide +kernel) rfl rfl (Nat.le_of_ble_eq_true rfl) dX7_takes_29 (fun H locs hP hD hS => ?_)
    have hP : va_P D vwCl (List.flatten [mdO m0 m1 m2 m3 th sv kp (nI n) (nI (i + 0)) lt fi sd hs, arC cI m1 1170 (enc B), arC cI m2 60 T, arC cI m3 8 h]) _ := hP
    have hD : va_D A (List.flatten [mdO m0 m1 m2 m3 th sv kp (nI n) (nI (i + 0)) lt fi sd hs, arC cI m1 1170 (enc B), arC cI m2 60 T, arC cI m3 8 h]) := hD
    have eZ : nI (i + 0) = nI (tkp T n i x) := by first | exact congrArg nI (tkp_y c5).symm | exact congrArg nI (tkp_n c5).symm
    obtain ⟨hP, hD⟩ := PD_re (wn := List.flatten [mdO m0 m1 m2 m3 th sv kp (nI n) (nI (tkp T n i x)) lt fi sd hs, arC cI m1 1170 (enc B), arC cI m2 60 T, arC cI m3 8 h]) (by rw [eZ]) hP hD
    refine lv_iload_n hx hb dX7_takes_32 rfl (lv_at hl 0 rfl) ?_
    refine hend _ _ _ _ _ ?_ hP hD hS dX7_takes_33
    first | exact (if_pos c5).symm | exact (if_neg c5).symm
  · skip
    refine lv_iconst (v := 1) hx hb dX7_takes_8 (by decide) ?_
    refine lv_goto (tgt := 13) hx hb dX7_takes_9 (by decide) ?_
    refine lv_istore_n (lv' := [(2, .int 1), (0, .ref m0), (1, .int x)]) hx hb dX7_takes_13 rfl hl (by decide) rfl (fun ls hl => ?_)
    refine lv_aload_n hx hb dX7_takes_14 rfl (lv_at hl 1 rfl) ?_
    refine lv_dup hx hb dX7_takes_15 rfl ?_
    refine va_get (D := D) (ci := 7) (v := .int (nI i)) (C := RX7) (T := TX7) (N := 12) hx hb hts hinX7 hown hK hP 0 rfl rfl 6 (by decide) (hts (.fieldLink RX7 155 "RibbonBalloonsModel" "at" "I") (by decide +kernel)) (fun _ h9 => h9) rfl dX7_takes_16 ?_
    refine lv_iload_n hx hb dX7_takes_19 rfl (lv_at hl 0 rfl) ?_
    refine lv_if_eq (tgt := 27) hx hb dX7_takes_20 (by decide) (fun h => absurd h (by decide)) (fun _ => ?_)
    refine lv_iconst (v := 1) hx hb dX7_takes_23 (by decide) ?_
    refine lv_goto (tgt := 28) hx hb dX7_takes_24 (by decide) ?_
    refine lv_iadd hx hb dX7_takes_28 ?_
    refine lv_eqi (y := nI (i + 1)) (nI_add _ _) ?_
    refine va_put (D := D) (ci := 7) (v := .int (nI (i + 1))) (ty := .int) (C := RX7) (T := TX7) (N := 12) hx hb hts hinX7 tyX7 tyX7_ok nmX7 hown hK hP hD hS 0 rfl rfl 6 (by decide) (hts (.fieldLink RX7 155 "RibbonBalloonsModel" "at" "I") (by decide +kernel)) (fun _ h9 => h9) rfl (by decide +kernel) rfl rfl (Nat.le_of_ble_eq_true rfl) dX7_takes_29 (fun H locs hP hD hS => ?_)
    have hP : va_P D vwCl (List.flatten [mdO m0 m1 m2 m3 th sv kp (nI n) (nI (i + 1)) lt fi sd hs, arC cI m1 1170 (enc B), arC cI m2 60 T, arC cI m3 8 h]) _ := hP
    have hD : va_D A (List.flatten [mdO m0 m1 m2 m3 th sv kp (nI n) (nI (i + 1)) lt fi sd hs, arC cI m1 1170 (enc B), arC cI m2 60 T, arC cI m3 8 h]) := hD
    have eZ : nI (i + 1) = nI (tkp T n i x) := by first | exact congrArg nI (tkp_y c5).symm | exact congrArg nI (tkp_n c5).symm
    obtain ⟨hP, hD⟩ := PD_re (wn := List.flatten [mdO m0 m1 m2 m3 th sv kp (nI n) (nI (tkp T n i x)) lt fi sd hs, arC cI m1 1170 (enc B), arC cI m2 60 T, arC cI m3 8 h]) (by rw [eZ]) hP hD
    refine lv_iload_n hx hb dX7_takes_32 rfl (lv_at hl 0 rfl) ?_
    refine hend _ _ _ _ _ ?_ hP hD hS dX7_takes_33
    first | exact (if_pos c5).symm | exact (if_neg c5).symm

set_option maxHeartbeats 4000000 in
set_option maxRecDepth 100000 in
theorem c_X7_figure (l : Launch) (D : va_G) (cI cZ cS cJ : ClassId) (m0 : Nat) (m1 : Nat) (m2 : Nat) (m3 : Nat) (th : Int32) (sv : Int32) (kp : Int32) (lt : Int32) (fi : Int32) (sd : Int32) (hs : Int64) (B : Nat → Nat → Nat → Int32) (T : Nat → Int32) (h : Nat → Int32) (n : Nat) (i : Nat) (lo : Int32) (hi : Int32) (hn60 : n ≤ 60) (hin : i ≤ n) (hdg : dg lo hi) : C0 l yX7_figure wsX7_figure ({ frames := 1, cells := 0, slots := 0, locals := 22 }) D (tyL cI cZ cS cJ) [.ref m0, .int lo, .int hi] (List.flatten [mdO m0 m1 m2 m3 th sv kp (nI n) (nI i) lt fi sd hs, arC cI m1 1170 (enc B), arC cI m2 60 T, arC cI m3 8 h]) (some (.int (fgv T n lo hi i))) (List.flatten [mdO m0 m1 m2 m3 th sv kp (nI n) (nI (fgp T n lo hi i)) lt fi sd hs, arC cI m1 1170 (enc B), arC cI m2 60 T, arC cI m3 8 h]) 0 0 := by
  refine C0_int (cc := cX7_figure) (maxL := 4) (rt := .int) (by decide) rfl (Nat.le_of_ble_eq_true rfl) (rfl) ?_
  intro p e s m below meth c A ls Q X hK hP hD hS hA hl hend
  have X : CallFix p m c cX7_figure 4 s ([.ref m0, .int lo, .int hi] : List Value).toArray wsX7_figure RX7 := X
  obtain ⟨hx, hb, hml, hown, hts⟩ := id X
  have hl : lv_has ls 4 [(0, .ref m0), (1, .int lo), (2, .int hi)] := hl
  have hinX7 : ∀ w ∈ u_ws RX7 TX7 12, w ∈ wsX7_figure := by decide +kernel
  refine lv_aload_n hx hb dX7_figure_0 rfl (lv_at hl 0 rfl) ?_
  refine kcallV (As := []) (rest := []) (Wn := [mdO m0 m1 m2 m3 th sv kp (nI n) (nI i) lt fi sd hs, arC cI m1 1170 (enc B), arC cI m2 60 T, arC cI m3 8 h]) X (c_X7_sign l D cI cZ cS cJ m0 m1 m2 m3 th sv kp lt fi sd hs B T h n i (by omega) (by omega)) (cwV 0 hts gX7_figure_X7_sign rfl rfl rfl (by decide +kernel) ⟨Nat.le_of_ble_eq_true rfl, Nat.le_of_ble_eq_true rfl⟩) hK hP hD hS hA [0, 1, 2, 3] rfl (by decide +kernel) rfl rfl rfl 0 7 rfl rfl rfl hl.1 rfl (Nat.le_of_ble_eq_true rfl) dX7_figure_1 ⟨Nat.le_of_ble_eq_true rfl, Nat.le_of_ble_eq_true rfl⟩ (fun H locs hP hD hS => ?_)
  refine lv_bipush (v := 48) hx hb dX7_figure_4 (by decide) ?_
  refine lv_iload_n hx hb dX7_figure_6 rfl (lv_at hl 1 rfl) ?_
  refine lv_iadd hx hb dX7_figure_7 ?_
  refine lv_bipush (v := 48) hx hb dX7_figure_8 (by decide) ?_
  refine lv_iload_n hx hb dX7_figure_10 rfl (lv_at hl 2 rfl) ?_
  refine lv_iadd hx hb dX7_figure_11 ?_
  refine kcallS (As := [.int (cod T n i), .int (48 + lo), .int (48 + hi)]) (rest := []) (Wn := [mdO m0 m1 m2 m3 th sv kp (nI n) (nI i) lt fi sd hs, arC cI m1 1170 (enc B), arC cI m2 60 T, arC cI m3 8 h]) X (c_X7_in l D cI cZ cS cJ (cod T n i) (48 + lo) (48 + hi)) (va_cwS 3 hts gX7_figure_X7_in rfl rfl rfl (by decide +kernel) ⟨Nat.le_of_ble_eq_true rfl, Nat.le_of_ble_eq_true rfl⟩) hK hP hD hS hA [] rfl (by decide +kernel) rfl rfl rfl rfl hl.1 rfl (Nat.le_of_ble_eq_true rfl) dX7_figure_12 ⟨Nat.le_of_ble_eq_true rfl, Nat.le_of_ble_eq_true rfl⟩ (fun H locs hP hD hS => ?_)
  refine lv_if_eq (tgt := 28) hx hb dX7_figure_15 (by decide) (fun c15 => ?_) (fun c15 => ?_)
  · skip
    refine lv_sipush (v := (-1000)) hx hb dX7_figure_28 (by decide) ?_
    refine lv_istore_n (lv' := [(3, .int (-1000)), (0, .ref m0), (1, .int lo), (2, .int hi)]) hx hb dX7_figure_31 rfl hl (by decide) rfl (fun ls hl => ?_)
    refine lv_aload_n hx hb dX7_figure_32 rfl (lv_at hl 1 rfl) ?_
    refine lv_dup hx hb dX7_figure_33 rfl ?_
    refine va_get (D := D) (ci := 7) (v := .int (nI i)) (C := RX7) (T := TX7) (N := 12) hx hb hts hinX7 hown hK hP 0 rfl rfl 6 (by decide) (hts (.fieldLink RX7 155 "RibbonBalloonsModel" "at" "I") (by decide +kernel)) (fun _ h9 => h9) rfl dX7_figure_34 ?_
    refine lv_iload_n hx hb dX7_figure_37 rfl (lv_at hl 0 rfl) ?_
    refine lv_sipush (v := (-1000)) hx hb dX7_figure_38 (by decide) ?_
    refine lv_icmp_ne (tgt := 48) hx hb dX7_figure_41 (by decide) (fun h => absurd h (not_not_intro rfl)) (fun _ => ?_)
    refine lv_iconst (v := 0) hx hb dX7_figure_44 (by decide) ?_
    refine lv_goto (tgt := 49) hx hb dX7_figure_45 (by decide) ?_
    refine lv_iadd hx hb dX7_figure_49 ?_
    refine lv_eqi (y := nI (i + 0)) (nI_add _ _) ?_
    refine va_put (D := D) (ci := 7) (v := .int (nI (i + 0))) (ty := .int) (C := RX7) (T := TX7) (N := 12) hx hb hts hinX7 tyX7 tyX7_ok nmX7 hown hK hP hD hS 0 rfl rfl 6 (by decide) (hts (.fieldLink RX7 155 "RibbonBalloonsModel" "at" "I") (by decide +kernel)) (fun _ h9 => h9) rfl (by decide +kernel) rfl rfl (Nat.le_of_ble_eq_true rfl) dX7_figure_50 (fun H locs hP hD hS => ?_)
    have hP : va_P D vwCl (List.flatten [mdO m0 m1 m2 m3 th sv kp (nI n) (nI (i + 0)) lt fi sd hs, arC cI m1 1170 (enc B), arC cI m2 60 T, arC cI m3 8 h]) _ := hP
    have hD : va_D A (List.flatten [mdO m0 m1 m2 m3 th sv kp (nI n) (nI (i + 0)) lt fi sd hs, arC cI m1 1170 (enc B), arC cI m2 60 T, arC cI m3 8 h]) := hD
    have eZ : nI (i + 0) = nI (fgp T n lo hi i) := by first | exact congrArg nI (fgv_y (b1_t c15)).2.symm | exact congrArg nI (fgv_n (b1_z c15)).2.symm
    obtain ⟨hP, hD⟩ := PD_re (wn := List.flatten [mdO m0 m1 m2 m3 th sv kp (nI n) (nI (fgp T n lo hi i)) lt fi sd hs, arC cI m1 1170 (enc B), arC cI m2 60 T, arC cI m3 8 h]) (by rw [eZ]) hP hD
    refine lv_iload_n hx hb dX7_figure_53 rfl (lv_at hl 0 rfl) ?_
    refine hend _ _ _ _ _ ?_ hP hD hS dX7_figure_54
    first | exact (fgv_y (b1_t c15)).1.symm | exact (fgv_n (b1_z c15)).1.symm
  · skip
    refine lv_aload_n hx hb dX7_figure_18 rfl (lv_at hl 0 rfl) ?_
    refine kcallV (As := []) (rest := []) (Wn := [mdO m0 m1 m2 m3 th sv kp (nI n) (nI i) lt fi sd hs, arC cI m1 1170 (enc B), arC cI m2 60 T, arC cI m3 8 h]) X (c_X7_sign l D cI cZ cS cJ m0 m1 m2 m3 th sv kp lt fi sd hs B T h n i (by omega) (by omega)) (cwV 0 hts gX7_figure_X7_sign rfl rfl rfl (by decide +kernel) ⟨Nat.le_of_ble_eq_true rfl, Nat.le_of_ble_eq_true rfl⟩) hK hP hD hS hA [0, 1, 2, 3] rfl (by decide +kernel) rfl rfl rfl 0 7 rfl rfl rfl hl.1 rfl (Nat.le_of_ble_eq_true rfl) dX7_figure_19 ⟨Nat.le_of_ble_eq_true rfl, Nat.le_of_ble_eq_true rfl⟩ (fun H locs hP hD hS => ?_)
    refine lv_bipush (v := 48) hx hb dX7_figure_22 (by decide) ?_
    refine lv_isub hx hb dX7_figure_24 ?_
    refine lv_goto (tgt := 31) hx hb dX7_figure_25 (by decide) ?_
    refine lv_istore_n (lv' := [(3, .int ((cod T n i) - 48)), (0, .ref m0), (1, .int lo), (2, .int hi)]) hx hb dX7_figure_31 rfl hl (by decide) rfl (fun ls hl => ?_)
    refine lv_aload_n hx hb dX7_figure_32 rfl (lv_at hl 1 rfl) ?_
    refine lv_dup hx hb dX7_figure_33 rfl ?_
    refine va_get (D := D) (ci := 7) (v := .int (nI i)) (C := RX7) (T := TX7) (N := 12) hx hb hts hinX7 hown hK hP 0 rfl rfl 6 (by decide) (hts (.fieldLink RX7 155 "RibbonBalloonsModel" "at" "I") (by decide +kernel)) (fun _ h9 => h9) rfl dX7_figure_34 ?_
    refine lv_iload_n hx hb dX7_figure_37 rfl (lv_at hl 0 rfl) ?_
    refine lv_sipush (v := (-1000)) hx hb dX7_figure_38 (by decide) ?_
    refine lv_icmp_ne (tgt := 48) hx hb dX7_figure_41 (by decide) (fun _ => ?_) (fun h => absurd h (dg_ne hdg (b1_t c15)))
    refine lv_iconst (v := 1) hx hb dX7_figure_48 (by decide) ?_
    refine lv_iadd hx hb dX7_figure_49 ?_
    refine lv_eqi (y := nI (i + 1)) (nI_add _ _) ?_
    refine va_put (D := D) (ci := 7) (v := .int (nI (i + 1))) (ty := .int) (C := RX7) (T := TX7) (N := 12) hx hb hts hinX7 tyX7 tyX7_ok nmX7 hown hK hP hD hS 0 rfl rfl 6 (by decide) (hts (.fieldLink RX7 155 "RibbonBalloonsModel" "at" "I") (by decide +kernel)) (fun _ h9 => h9) rfl (by decide +kernel) rfl rfl (Nat.le_of_ble_eq_true rfl) dX7_figure_50 (fun H locs hP hD hS => ?_)
    have hP : va_P D vwCl (List.flatten [mdO m0 m1 m2 m3 th sv kp (nI n) (nI (i + 1)) lt fi sd hs, arC cI m1 1170 (enc B), arC cI m2 60 T, arC cI m3 8 h]) _ := hP
    have hD : va_D A (List.flatten [mdO m0 m1 m2 m3 th sv kp (nI n) (nI (i + 1)) lt fi sd hs, arC cI m1 1170 (enc B), arC cI m2 60 T, arC cI m3 8 h]) := hD
    have eZ : nI (i + 1) = nI (fgp T n lo hi i) := by first | exact congrArg nI (fgv_y (b1_t c15)).2.symm | exact congrArg nI (fgv_n (b1_z c15)).2.symm
    obtain ⟨hP, hD⟩ := PD_re (wn := List.flatten [mdO m0 m1 m2 m3 th sv kp (nI n) (nI (fgp T n lo hi i)) lt fi sd hs, arC cI m1 1170 (enc B), arC cI m2 60 T, arC cI m3 8 h]) (by rw [eZ]) hP hD
    refine lv_iload_n hx hb dX7_figure_53 rfl (lv_at hl 0 rfl) ?_
    refine hend _ _ _ _ _ ?_ hP hD hS dX7_figure_54
    first | exact (fgv_y (b1_t c15)).1.symm | exact (fgv_n (b1_z c15)).1.symm

set_option maxHeartbeats 4000000 in
set_option maxRecDepth 100000 in
theorem c_X7_readsAmount (l : Launch) (D : va_G) (cI cZ cS cJ : ClassId) (m0 : Nat) (m1 : Nat) (m2 : Nat) (m3 : Nat) (th : Int32) (sv : Int32) (kp : Int32) (lt : Int32) (fi : Int32) (sd : Int32) (hs : Int64) (B : Nat → Nat → Nat → Int32) (T : Nat → Int32) (h : Nat → Int32) (n : Nat) (i : Nat) (hn60 : n ≤ 60) (hin : i ≤ n) : C0 l yX7_readsAmount wsX7_readsAmount ({ frames := 2, cells := 0, slots := 0, locals := 45 }) D (tyL cI cZ cS cJ) [.ref m0] (List.flatten [mdO m0 m1 m2 m3 th sv kp (nI n) (nI i) lt fi sd hs, arC cI m1 1170 (enc B), arC cI m2 60 T, arC cI m3 8 h]) (some (.int (amv T n i))) (List.flatten [mdO m0 m1 m2 m3 th sv kp (nI n) (nI (amp T n i)) lt fi sd hs, arC cI m1 1170 (enc B), arC cI m2 60 T, arC cI m3 8 h]) 0 0 := by
  refine C0_int (cc := cX7_readsAmount) (maxL := 3) (rt := .int) (by decide) rfl (Nat.le_of_ble_eq_true rfl) (rfl) ?_
  intro p e s m below meth c A ls Q X hK hP hD hS hA hl hend
  have X : CallFix p m c cX7_readsAmount 3 s ([.ref m0] : List Value).toArray wsX7_readsAmount RX7 := X
  obtain ⟨hx, hb, hml, hown, hts⟩ := id X
  have hl : lv_has ls 3 [(0, .ref m0)] := hl
  refine lv_aload_n hx hb dX7_readsAmount_0 rfl (lv_at hl 0 rfl) ?_
  refine lv_iconst (v := 1) hx hb dX7_readsAmount_1 (by decide) ?_
  refine lv_bipush (v := 9) hx hb dX7_readsAmount_2 (by decide) ?_
  refine kcallV (As := [.int 1, .int 9]) (rest := []) (Wn := [mdO m0 m1 m2 m3 th sv kp (nI n) (nI (fgp T n 1 9 i)) lt fi sd hs, arC cI m1 1170 (enc B), arC cI m2 60 T, arC cI m3 8 h]) X (c_X7_figure l D cI cZ cS cJ m0 m1 m2 m3 th sv kp lt fi sd hs B T h n i 1 9 (by omega) (by omega) dg19) (cwV 2 hts gX7_readsAmount_X7_figure rfl rfl rfl (by decide +kernel) ⟨Nat.le_of_ble_eq_true rfl, Nat.le_of_ble_eq_true rfl⟩) hK hP hD hS hA [0, 1, 2, 3] rfl (by decide +kernel) rfl rfl rfl 0 7 rfl rfl rfl hl.1 rfl (Nat.le_of_ble_eq_true rfl) dX7_readsAmount_4 ⟨Nat.le_of_ble_eq_true rfl, Nat.le_of_ble_eq_true rfl⟩ (fun H locs hP hD hS => ?_)
  refine lv_istore_n (lv' := [(1, .int (fgv T n 1 9 i)), (0, .ref m0)]) hx hb dX7_readsAmount_7 rfl hl (by decide) rfl (fun ls hl => ?_)
  refine lv_iload_n hx hb dX7_readsAmount_8 rfl (lv_at hl 0 rfl) ?_
  refine lv_sipush (v := (-1000)) hx hb dX7_readsAmount_9 (by decide) ?_
  refine lv_icmp_ne (tgt := 21) hx hb dX7_readsAmount_12 (by decide) (fun c12 => ?_) (fun c12 => ?_)
  · skip
    refine lv_aload_n hx hb dX7_readsAmount_21 rfl (lv_at hl 1 rfl) ?_
    refine lv_iconst (v := 0) hx hb dX7_readsAmount_22 (by decide) ?_
    refine lv_bipush (v := 9) hx hb dX7_readsAmount_23 (by decide) ?_
    refine kcallV (As := [.int 0, .int 9]) (rest := []) (Wn := [mdO m0 m1 m2 m3 th sv kp (nI n) (nI (fgp T n 0 9 (fgp T n 1 9 i))) lt fi sd hs, arC cI m1 1170 (enc B), arC cI m2 60 T, arC cI m3 8 h]) X (c_X7_figure l D cI cZ cS cJ m0 m1 m2 m3 th sv kp lt fi sd hs B T h n (fgp T n 1 9 i) 0 9 (by omega) (fgp_le dg19 hin) dg09) (cwV 2 hts gX7_readsAmount_X7_figure rfl rfl rfl (by decide +kernel) ⟨Nat.le_of_ble_eq_true rfl, Nat.le_of_ble_eq_true rfl⟩) hK hP hD hS hA [0, 1, 2, 3] rfl (by decide +kernel) rfl rfl rfl 0 7 rfl rfl rfl hl.1 rfl (Nat.le_of_ble_eq_true rfl) dX7_readsAmount_25 ⟨Nat.le_of_ble_eq_true rfl, Nat.le_of_ble_eq_true rfl⟩ (fun H locs hP hD hS => ?_)
    refine lv_istore_n (lv' := [(2, .int (fgv T n 0 9 (fgp T n 1 9 i))), (1, .int (fgv T n 1 9 i)), (0, .ref m0)]) hx hb dX7_readsAmount_28 rfl hl (by decide) rfl (fun ls hl => ?_)
    refine lv_iload_n hx hb dX7_readsAmount_29 rfl (lv_at hl 0 rfl) ?_
    refine lv_sipush (v := (-1000)) hx hb dX7_readsAmount_30 (by decide) ?_
    refine lv_icmp_ne (tgt := 40) hx hb dX7_readsAmount_33 (by decide) (fun c33 => ?_) (fun c33 => ?_)
    · skip
      refine lv_bipush (v := 10) hx hb dX7_readsAmount_40 (by decide) ?_
      refine lv_iload_n hx hb dX7_readsAmount_42 rfl (lv_at hl 1 rfl) ?_
      refine lv_imul hx hb dX7_readsAmount_43 ?_
      refine lv_iload_n hx hb dX7_readsAmount_44 rfl (lv_at hl 0 rfl) ?_
      refine lv_iadd hx hb dX7_readsAmount_45 ?_
      have eZ : nI (fgp T n 0 9 (fgp T n 1 9 i)) = nI (amp T n i) := by first | exact congrArg nI (if_pos c12).symm | exact congrArg nI (if_neg c12).symm
      obtain ⟨hP, hD⟩ := PD_re (wn := List.flatten [mdO m0 m1 m2 m3 th sv kp (nI n) (nI (amp T n i)) lt fi sd hs, arC cI m1 1170 (enc B), arC cI m2 60 T, arC cI m3 8 h]) (by rw [eZ]) hP hD
      refine hend _ _ _ _ _ ?_ hP hD hS dX7_readsAmount_46
      first | exact c12.trans (if_pos c12).symm | exact ((if_neg c12).trans (if_pos c33)).symm | exact ((if_neg c12).trans (if_neg c33)).symm
    · skip
      refine lv_iload_n hx hb dX7_readsAmount_36 rfl (lv_at hl 1 rfl) ?_
      refine lv_goto (tgt := 46) hx hb dX7_readsAmount_37 (by decide) ?_
      have eZ : nI (fgp T n 0 9 (fgp T n 1 9 i)) = nI (amp T n i) := by first | exact congrArg nI (if_pos c12).symm | exact congrArg nI (if_neg c12).symm
      obtain ⟨hP, hD⟩ := PD_re (wn := List.flatten [mdO m0 m1 m2 m3 th sv kp (nI n) (nI (amp T n i)) lt fi sd hs, arC cI m1 1170 (enc B), arC cI m2 60 T, arC cI m3 8 h]) (by rw [eZ]) hP hD
      refine hend _ _ _ _ _ ?_ hP hD hS dX7_readsAmount_46
      first | exact c12.trans (if_pos c12).symm | exact ((if_neg c12).trans (if_pos c33)).symm | exact ((if_neg c12).trans (if_neg c33)).symm
  · skip
    refine lv_sipush (v := (-1000)) hx hb dX7_readsAmount_15 (by decide) ?_
    refine lv_goto (tgt := 28) hx hb dX7_readsAmount_18 (by decide) ?_
    refine lv_istore_n (lv' := [(2, .int (-1000)), (1, .int (fgv T n 1 9 i)), (0, .ref m0)]) hx hb dX7_readsAmount_28 rfl hl (by decide) rfl (fun ls hl => ?_)
    refine lv_iload_n hx hb dX7_readsAmount_29 rfl (lv_at hl 0 rfl) ?_
    refine lv_sipush (v := (-1000)) hx hb dX7_readsAmount_30 (by decide) ?_
    refine lv_icmp_ne (tgt := 40) hx hb dX7_readsAmount_33 (by decide) (fun h => absurd h (not_not_intro rfl)) (fun _ => ?_)
    refine lv_iload_n hx hb dX7_readsAmount_36 rfl (lv_at hl 1 rfl) ?_
    refine lv_goto (tgt := 46) hx hb dX7_readsAmount_37 (by decide) ?_
    have eZ : nI (fgp T n 1 9 i) = nI (amp T n i) := by first | exact congrArg nI (if_pos c12).symm | exact congrArg nI (if_neg c12).symm
    obtain ⟨hP, hD⟩ := PD_re (wn := List.flatten [mdO m0 m1 m2 m3 th sv kp (nI n) (nI (amp T n i)) lt fi sd hs, arC cI m1 1170 (enc B), arC cI m2 60 T, arC cI m3 8 h]) (by rw [eZ]) hP hD
    refine hend _ _ _ _ _ ?_ hP hD hS dX7_readsAmount_46
    first | exact c12.trans (if_pos c12).symm | exact ((if_neg c12).trans (if_pos c33)).symm | exact ((if_neg c12).trans (if_neg c33)).symm

set_option maxHeartbeats 4000000 in
set_option maxRecDepth 100000 in
theorem c_X7_readsPart104 (l : Launch) (D : va_G) (cI cZ cS cJ : ClassId) (m0 : Nat) (m1 : Nat) (m2 : Nat) (m3 : Nat) (th : Int32) (sv : Int32) (kp : Int32) (lt : Int32) (fi : Int32) (sd : Int32) (hs : Int64) (B : Nat → Nat → Nat → Int32) (T : Nat → Int32) (h : Nat → Int32) (n : Nat) (i : Nat) (hn60 : n ≤ 60) (hin : i ≤ n) (hc : cod T n i = 104) : CE (U := (Int32)) l yX7_readsPart wsX7_readsPart ({ frames := 3, cells := 0, slots := 0, locals := 67 }) D (tyL cI cZ cS cJ) [.ref m0] (List.flatten [mdO m0 m1 m2 m3 th sv kp (nI n) (nI i) lt fi sd hs, arC cI m1 1170 (enc B), arC cI m2 60 T, arC cI m3 8 h]) (fun u => (rdL (cod T n i) = 2 → u = prS T n i)) (fun u => some (.int (b1 (prO T n i)))) (fun u => List.flatten [mdO m0 m1 m2 m3 th sv kp (nI n) (nI (prP T n i)) (cod T n i) (prF T n i) u hs, arC cI m1 1170 (enc B), arC cI m2 60 T, arC cI m3 8 h]) 0 0 := by
  refine CE_int (cc := cX7_readsPart) (maxL := 1) (rt := .boolean) (by decide) rfl (Nat.le_of_ble_eq_true rfl) (fun _ _ => nar_b1 _) ?_
  intro p e s m below meth c A ls Q X hK hP hD hS hA hl hend
  have X : CallFix p m c cX7_readsPart 1 s ([.ref m0] : List Value).toArray wsX7_readsPart RX7 := X
  obtain ⟨hx, hb, hml, hown, hts⟩ := id X
  have hl : lv_has ls 1 [(0, .ref m0)] := hl
  have hinX7 : ∀ w ∈ u_ws RX7 TX7 12, w ∈ wsX7_readsPart := by decide +kernel
  have hr : rdL (cod T n i) = 5 := by rw [hc]; rfl
  refine lv_aload_n hx hb dX7_readsPart_0 rfl (lv_at hl 0 rfl) ?_
  refine lv_aload_n hx hb dX7_readsPart_1 rfl (lv_at hl 0 rfl) ?_
  refine kcallV (As := []) (rest := [.ref m0]) (Wn := [mdO m0 m1 m2 m3 th sv kp (nI n) (nI i) lt fi sd hs, arC cI m1 1170 (enc B), arC cI m2 60 T, arC cI m3 8 h]) X (c_X7_sign l D cI cZ cS cJ m0 m1 m2 m3 th sv kp lt fi sd hs B T h n i (by omega) (by omega)) (cwV 0 hts gX7_readsPart_X7_sign rfl rfl rfl (by decide +kernel) ⟨Nat.le_of_ble_eq_true rfl, Nat.le_of_ble_eq_true rfl⟩) hK hP hD hS hA [0, 1, 2, 3] rfl (by decide +kernel) rfl rfl rfl 0 7 rfl rfl rfl hl.1 rfl (Nat.le_of_ble_eq_true rfl) dX7_readsPart_2 ⟨Nat.le_of_ble_eq_true rfl, Nat.le_of_ble_eq_true rfl⟩ (fun H locs hP hD hS => ?_)
  refine va_put (D := D) (ci := 7) (v := .int (cod T n i)) (ty := .int) (C := RX7) (T := TX7) (N := 12) hx hb hts hinX7 tyX7 tyX7_ok nmX7 hown hK hP hD hS 0 rfl rfl 7 (by decide) (hts (.fieldLink RX7 165 "RibbonBalloonsModel" "letter" "I") (by decide +kernel)) (fun _ h9 => h9) rfl (by decide +kernel) rfl rfl (Nat.le_of_ble_eq_true rfl) dX7_readsPart_5 (fun H locs hP hD hS => ?_)
  have hP : va_P D vwCl (List.flatten [mdO m0 m1 m2 m3 th sv kp (nI n) (nI i) (cod T n i) fi sd hs, arC cI m1 1170 (enc B), arC cI m2 60 T, arC cI m3 8 h]) _ := hP
  have hD : va_D A (List.flatten [mdO m0 m1 m2 m3 th sv kp (nI n) (nI i) (cod T n i) fi sd hs, arC cI m1 1170 (enc B), arC cI m2 60 T, arC cI m3 8 h]) := hD
  refine lv_aload_n hx hb dX7_readsPart_8 rfl (lv_at hl 0 rfl) ?_
  refine lv_bipush (v := 104) hx hb dX7_readsPart_9 (by decide) ?_
  refine kcallV (As := [.int 104]) (rest := []) (Wn := [mdO m0 m1 m2 m3 th sv kp (nI n) (nI (tkp T n i 104)) (cod T n i) fi sd hs, arC cI m1 1170 (enc B), arC cI m2 60 T, arC cI m3 8 h]) X (c_X7_takes l D cI cZ cS cJ m0 m1 m2 m3 th sv kp (cod T n i) fi sd hs B T h n i 104 (by omega) (by omega)) (cwV 1 hts gX7_readsPart_X7_takes rfl rfl rfl (by decide +kernel) ⟨Nat.le_of_ble_eq_true rfl, Nat.le_of_ble_eq_true rfl⟩) hK hP hD hS hA [0, 1, 2, 3] rfl (by decide +kernel) rfl rfl rfl 0 7 rfl rfl rfl hl.1 rfl (Nat.le_of_ble_eq_true rfl) dX7_readsPart_11 ⟨Nat.le_of_ble_eq_true rfl, Nat.le_of_ble_eq_true rfl⟩ (fun H locs hP hD hS => ?_)
  refine lv_if_eq (tgt := 41) hx hb dX7_readsPart_14 (by decide) (fun h => absurd h (b1_of hc)) (fun _ => ?_)
  have eZ : nI (tkp T n i 104) = nI (i + 1) := congrArg nI (tkp_y hc)
  obtain ⟨hP, hD⟩ := PD_re (wn := List.flatten [mdO m0 m1 m2 m3 th sv kp (nI n) (nI (i + 1)) (cod T n i) fi sd hs, arC cI m1 1170 (enc B), arC cI m2 60 T, arC cI m3 8 h]) (by rw [eZ]) hP hD
  have hi1 : i + 1 ≤ n := cod_lt hc (by decide)
  refine lv_aload_n hx hb dX7_readsPart_17 rfl (lv_at hl 0 rfl) ?_
  refine lv_aload_n hx hb dX7_readsPart_18 rfl (lv_at hl 0 rfl) ?_
  refine kcallV (As := []) (rest := [.ref m0]) (Wn := [mdO m0 m1 m2 m3 th sv kp (nI n) (nI (amp T n (i + 1))) (cod T n i) fi sd hs, arC cI m1 1170 (enc B), arC cI m2 60 T, arC cI m3 8 h]) X (c_X7_readsAmount l D cI cZ cS cJ m0 m1 m2 m3 th sv kp (cod T n i) fi sd hs B T h n (i + 1) (by omega) (by omega)) (cwV 0 hts gX7_readsPart_X7_readsAmount rfl rfl rfl (by decide +kernel) ⟨Nat.le_of_ble_eq_true rfl, Nat.le_of_ble_eq_true rfl⟩) hK hP hD hS hA [0, 1, 2, 3] rfl (by decide +kernel) rfl rfl rfl 0 7 rfl rfl rfl hl.1 rfl (Nat.le_of_ble_eq_true rfl) dX7_readsPart_19 ⟨Nat.le_of_ble_eq_true rfl, Nat.le_of_ble_eq_true rfl⟩ (fun H locs hP hD hS => ?_)
  refine va_put (D := D) (ci := 7) (v := .int (amv T n (i + 1))) (ty := .int) (C := RX7) (T := TX7) (N := 12) hx hb hts hinX7 tyX7 tyX7_ok nmX7 hown hK hP hD hS 0 rfl rfl 8 (by decide) (hts (.fieldLink RX7 174 "RibbonBalloonsModel" "first" "I") (by decide +kernel)) (fun _ h9 => h9) rfl (by decide +kernel) rfl rfl (Nat.le_of_ble_eq_true rfl) dX7_readsPart_22 (fun H locs hP hD hS => ?_)
  have hP : va_P D vwCl (List.flatten [mdO m0 m1 m2 m3 th sv kp (nI n) (nI (amp T n (i + 1))) (cod T n i) (amv T n (i + 1)) sd hs, arC cI m1 1170 (enc B), arC cI m2 60 T, arC cI m3 8 h]) _ := hP
  have hD : va_D A (List.flatten [mdO m0 m1 m2 m3 th sv kp (nI n) (nI (amp T n (i + 1))) (cod T n i) (amv T n (i + 1)) sd hs, arC cI m1 1170 (enc B), arC cI m2 60 T, arC cI m3 8 h]) := hD
  refine lv_aload_n hx hb dX7_readsPart_25 rfl (lv_at hl 0 rfl) ?_
  refine va_get (D := D) (ci := 7) (v := .int (amv T n (i + 1))) (C := RX7) (T := TX7) (N := 12) hx hb hts hinX7 hown hK hP 0 rfl rfl 8 (by decide) (hts (.fieldLink RX7 174 "RibbonBalloonsModel" "first" "I") (by decide +kernel)) (fun _ h9 => h9) rfl dX7_readsPart_26 ?_
  refine lv_sipush (v := (-1000)) hx hb dX7_readsPart_29 (by decide) ?_
  refine lv_icmp_eq (tgt := 39) hx hb dX7_readsPart_32 (by decide) (fun c32 => ?_) (fun c32 => ?_)
  · skip
    refine lv_iconst (v := 0) hx hb dX7_readsPart_39 (by decide) ?_
    have eZ : nI (amp T n (i + 1)) = nI (prP T n i) := pp5 hr
    obtain ⟨hP, hD⟩ := PD_re (wn := List.flatten [mdO m0 m1 m2 m3 th sv kp (nI n) (nI (prP T n i)) (cod T n i) (amv T n (i + 1)) sd hs, arC cI m1 1170 (enc B), arC cI m2 60 T, arC cI m3 8 h]) (by rw [eZ]) hP hD
    have eZ : amv T n (i + 1) = prF T n i := pf5 hr
    obtain ⟨hP, hD⟩ := PD_re (wn := List.flatten [mdO m0 m1 m2 m3 th sv kp (nI n) (nI (prP T n i)) (cod T n i) (prF T n i) sd hs, arC cI m1 1170 (enc B), arC cI m2 60 T, arC cI m3 8 h]) (by rw [eZ]) hP hD
    refine hend (sd) _ _ _ _ _ (by exact fun q => absurd (hr.symm.trans q) (by decide)) ?_ hP hD hS dX7_readsPart_40
    first | exact pro_n (fun q => q ((po5 hr).trans c32)) | exact pro_y (fun q => c32 ((po5 hr).symm.trans q))
  · skip
    refine lv_iconst (v := 1) hx hb dX7_readsPart_35 (by decide) ?_
    refine lv_goto (tgt := 40) hx hb dX7_readsPart_36 (by decide) ?_
    have eZ : nI (amp T n (i + 1)) = nI (prP T n i) := pp5 hr
    obtain ⟨hP, hD⟩ := PD_re (wn := List.flatten [mdO m0 m1 m2 m3 th sv kp (nI n) (nI (prP T n i)) (cod T n i) (amv T n (i + 1)) sd hs, arC cI m1 1170 (enc B), arC cI m2 60 T, arC cI m3 8 h]) (by rw [eZ]) hP hD
    have eZ : amv T n (i + 1) = prF T n i := pf5 hr
    obtain ⟨hP, hD⟩ := PD_re (wn := List.flatten [mdO m0 m1 m2 m3 th sv kp (nI n) (nI (prP T n i)) (cod T n i) (prF T n i) sd hs, arC cI m1 1170 (enc B), arC cI m2 60 T, arC cI m3 8 h]) (by rw [eZ]) hP hD
    refine hend (sd) _ _ _ _ _ (by exact fun q => absurd (hr.symm.trans q) (by decide)) ?_ hP hD hS dX7_readsPart_40
    first | exact pro_n (fun q => q ((po5 hr).trans c32)) | exact pro_y (fun q => c32 ((po5 hr).symm.trans q))

set_option maxHeartbeats 4000000 in
set_option maxRecDepth 100000 in
theorem c_X7_readsPart99 (l : Launch) (D : va_G) (cI cZ cS cJ : ClassId) (m0 : Nat) (m1 : Nat) (m2 : Nat) (m3 : Nat) (th : Int32) (sv : Int32) (kp : Int32) (lt : Int32) (fi : Int32) (sd : Int32) (hs : Int64) (B : Nat → Nat → Nat → Int32) (T : Nat → Int32) (h : Nat → Int32) (n : Nat) (i : Nat) (hn60 : n ≤ 60) (hin : i ≤ n) (hc : cod T n i = 99) : CE (U := (Int32)) l yX7_readsPart wsX7_readsPart ({ frames := 3, cells := 0, slots := 0, locals := 67 }) D (tyL cI cZ cS cJ) [.ref m0] (List.flatten [mdO m0 m1 m2 m3 th sv kp (nI n) (nI i) lt fi sd hs, arC cI m1 1170 (enc B), arC cI m2 60 T, arC cI m3 8 h]) (fun u => (rdL (cod T n i) = 2 → u = prS T n i)) (fun u => some (.int (b1 (prO T n i)))) (fun u => List.flatten [mdO m0 m1 m2 m3 th sv kp (nI n) (nI (prP T n i)) (cod T n i) (prF T n i) u hs, arC cI m1 1170 (enc B), arC cI m2 60 T, arC cI m3 8 h]) 0 0 := by
  refine CE_int (cc := cX7_readsPart) (maxL := 1) (rt := .boolean) (by decide) rfl (Nat.le_of_ble_eq_true rfl) (fun _ _ => nar_b1 _) ?_
  intro p e s m below meth c A ls Q X hK hP hD hS hA hl hend
  have X : CallFix p m c cX7_readsPart 1 s ([.ref m0] : List Value).toArray wsX7_readsPart RX7 := X
  obtain ⟨hx, hb, hml, hown, hts⟩ := id X
  have hl : lv_has ls 1 [(0, .ref m0)] := hl
  have hinX7 : ∀ w ∈ u_ws RX7 TX7 12, w ∈ wsX7_readsPart := by decide +kernel
  have hr : rdL (cod T n i) = 4 := by rw [hc]; rfl
  refine lv_aload_n hx hb dX7_readsPart_0 rfl (lv_at hl 0 rfl) ?_
  refine lv_aload_n hx hb dX7_readsPart_1 rfl (lv_at hl 0 rfl) ?_
  refine kcallV (As := []) (rest := [.ref m0]) (Wn := [mdO m0 m1 m2 m3 th sv kp (nI n) (nI i) lt fi sd hs, arC cI m1 1170 (enc B), arC cI m2 60 T, arC cI m3 8 h]) X (c_X7_sign l D cI cZ cS cJ m0 m1 m2 m3 th sv kp lt fi sd hs B T h n i (by omega) (by omega)) (cwV 0 hts gX7_readsPart_X7_sign rfl rfl rfl (by decide +kernel) ⟨Nat.le_of_ble_eq_true rfl, Nat.le_of_ble_eq_true rfl⟩) hK hP hD hS hA [0, 1, 2, 3] rfl (by decide +kernel) rfl rfl rfl 0 7 rfl rfl rfl hl.1 rfl (Nat.le_of_ble_eq_true rfl) dX7_readsPart_2 ⟨Nat.le_of_ble_eq_true rfl, Nat.le_of_ble_eq_true rfl⟩ (fun H locs hP hD hS => ?_)
  refine va_put (D := D) (ci := 7) (v := .int (cod T n i)) (ty := .int) (C := RX7) (T := TX7) (N := 12) hx hb hts hinX7 tyX7 tyX7_ok nmX7 hown hK hP hD hS 0 rfl rfl 7 (by decide) (hts (.fieldLink RX7 165 "RibbonBalloonsModel" "letter" "I") (by decide +kernel)) (fun _ h9 => h9) rfl (by decide +kernel) rfl rfl (Nat.le_of_ble_eq_true rfl) dX7_readsPart_5 (fun H locs hP hD hS => ?_)
  have hP : va_P D vwCl (List.flatten [mdO m0 m1 m2 m3 th sv kp (nI n) (nI i) (cod T n i) fi sd hs, arC cI m1 1170 (enc B), arC cI m2 60 T, arC cI m3 8 h]) _ := hP
  have hD : va_D A (List.flatten [mdO m0 m1 m2 m3 th sv kp (nI n) (nI i) (cod T n i) fi sd hs, arC cI m1 1170 (enc B), arC cI m2 60 T, arC cI m3 8 h]) := hD
  refine lv_aload_n hx hb dX7_readsPart_8 rfl (lv_at hl 0 rfl) ?_
  refine lv_bipush (v := 104) hx hb dX7_readsPart_9 (by decide) ?_
  refine kcallV (As := [.int 104]) (rest := []) (Wn := [mdO m0 m1 m2 m3 th sv kp (nI n) (nI (tkp T n i 104)) (cod T n i) fi sd hs, arC cI m1 1170 (enc B), arC cI m2 60 T, arC cI m3 8 h]) X (c_X7_takes l D cI cZ cS cJ m0 m1 m2 m3 th sv kp (cod T n i) fi sd hs B T h n i 104 (by omega) (by omega)) (cwV 1 hts gX7_readsPart_X7_takes rfl rfl rfl (by decide +kernel) ⟨Nat.le_of_ble_eq_true rfl, Nat.le_of_ble_eq_true rfl⟩) hK hP hD hS hA [0, 1, 2, 3] rfl (by decide +kernel) rfl rfl rfl 0 7 rfl rfl rfl hl.1 rfl (Nat.le_of_ble_eq_true rfl) dX7_readsPart_11 ⟨Nat.le_of_ble_eq_true rfl, Nat.le_of_ble_eq_true rfl⟩ (fun H locs hP hD hS => ?_)
  refine lv_if_eq (tgt := 41) hx hb dX7_readsPart_14 (by decide) (fun _ => ?_) (fun h => absurd (b1_no (by rw [hc]; decide)) h)
  have eZ : nI (tkp T n i 104) = nI i := congrArg nI (tkp_n (by rw [hc]; decide))
  obtain ⟨hP, hD⟩ := PD_re (wn := List.flatten [mdO m0 m1 m2 m3 th sv kp (nI n) (nI i) (cod T n i) fi sd hs, arC cI m1 1170 (enc B), arC cI m2 60 T, arC cI m3 8 h]) (by rw [eZ]) hP hD
  refine lv_aload_n hx hb dX7_readsPart_41 rfl (lv_at hl 0 rfl) ?_
  refine lv_bipush (v := 99) hx hb dX7_readsPart_42 (by decide) ?_
  refine kcallV (As := [.int 99]) (rest := []) (Wn := [mdO m0 m1 m2 m3 th sv kp (nI n) (nI (tkp T n i 99)) (cod T n i) fi sd hs, arC cI m1 1170 (enc B), arC cI m2 60 T, arC cI m3 8 h]) X (c_X7_takes l D cI cZ cS cJ m0 m1 m2 m3 th sv kp (cod T n i) fi sd hs B T h n i 99 (by omega) (by omega)) (cwV 1 hts gX7_readsPart_X7_takes rfl rfl rfl (by decide +kernel) ⟨Nat.le_of_ble_eq_true rfl, Nat.le_of_ble_eq_true rfl⟩) hK hP hD hS hA [0, 1, 2, 3] rfl (by decide +kernel) rfl rfl rfl 0 7 rfl rfl rfl hl.1 rfl (Nat.le_of_ble_eq_true rfl) dX7_readsPart_44 ⟨Nat.le_of_ble_eq_true rfl, Nat.le_of_ble_eq_true rfl⟩ (fun H locs hP hD hS => ?_)
  refine lv_if_eq (tgt := 77) hx hb dX7_readsPart_47 (by decide) (fun h => absurd h (b1_of hc)) (fun _ => ?_)
  have eZ : nI (tkp T n i 99) = nI (i + 1) := congrArg nI (tkp_y hc)
  obtain ⟨hP, hD⟩ := PD_re (wn := List.flatten [mdO m0 m1 m2 m3 th sv kp (nI n) (nI (i + 1)) (cod T n i) fi sd hs, arC cI m1 1170 (enc B), arC cI m2 60 T, arC cI m3 8 h]) (by rw [eZ]) hP hD
  have hi1 : i + 1 ≤ n := cod_lt hc (by decide)
  refine lv_aload_n hx hb dX7_readsPart_50 rfl (lv_at hl 0 rfl) ?_
  refine lv_aload_n hx hb dX7_readsPart_51 rfl (lv_at hl 0 rfl) ?_
  refine lv_iconst (v := 0) hx hb dX7_readsPart_52 (by decide) ?_
  refine lv_bipush (v := 6) hx hb dX7_readsPart_53 (by decide) ?_
  refine kcallV (As := [.int 0, .int 6]) (rest := [.ref m0]) (Wn := [mdO m0 m1 m2 m3 th sv kp (nI n) (nI (fgp T n 0 6 (i + 1))) (cod T n i) fi sd hs, arC cI m1 1170 (enc B), arC cI m2 60 T, arC cI m3 8 h]) X (c_X7_figure l D cI cZ cS cJ m0 m1 m2 m3 th sv kp (cod T n i) fi sd hs B T h n (i + 1) 0 6 (by omega) (by omega) dg6) (cwV 2 hts gX7_readsPart_X7_figure rfl rfl rfl (by decide +kernel) ⟨Nat.le_of_ble_eq_true rfl, Nat.le_of_ble_eq_true rfl⟩) hK hP hD hS hA [0, 1, 2, 3] rfl (by decide +kernel) rfl rfl rfl 0 7 rfl rfl rfl hl.1 rfl (Nat.le_of_ble_eq_true rfl) dX7_readsPart_55 ⟨Nat.le_of_ble_eq_true rfl, Nat.le_of_ble_eq_true rfl⟩ (fun H locs hP hD hS => ?_)
  refine va_put (D := D) (ci := 7) (v := .int (fgv T n 0 6 (i + 1))) (ty := .int) (C := RX7) (T := TX7) (N := 12) hx hb hts hinX7 tyX7 tyX7_ok nmX7 hown hK hP hD hS 0 rfl rfl 8 (by decide) (hts (.fieldLink RX7 174 "RibbonBalloonsModel" "first" "I") (by decide +kernel)) (fun _ h9 => h9) rfl (by decide +kernel) rfl rfl (Nat.le_of_ble_eq_true rfl) dX7_readsPart_58 (fun H locs hP hD hS => ?_)
  have hP : va_P D vwCl (List.flatten [mdO m0 m1 m2 m3 th sv kp (nI n) (nI (fgp T n 0 6 (i + 1))) (cod T n i) (fgv T n 0 6 (i + 1)) sd hs, arC cI m1 1170 (enc B), arC cI m2 60 T, arC cI m3 8 h]) _ := hP
  have hD : va_D A (List.flatten [mdO m0 m1 m2 m3 th sv kp (nI n) (nI (fgp T n 0 6 (i + 1))) (cod T n i) (fgv T n 0 6 (i + 1)) sd hs, arC cI m1 1170 (enc B), arC cI m2 60 T, arC cI m3 8 h]) := hD
  refine lv_aload_n hx hb dX7_readsPart_61 rfl (lv_at hl 0 rfl) ?_
  refine va_get (D := D) (ci := 7) (v := .int (fgv T n 0 6 (i + 1))) (C := RX7) (T := TX7) (N := 12) hx hb hts hinX7 hown hK hP 0 rfl rfl 8 (by decide) (hts (.fieldLink RX7 174 "RibbonBalloonsModel" "first" "I") (by decide +kernel)) (fun _ h9 => h9) rfl dX7_readsPart_62 ?_
  refine lv_sipush (v := (-1000)) hx hb dX7_readsPart_65 (by decide) ?_
  refine lv_icmp_eq (tgt := 75) hx hb dX7_readsPart_68 (by decide) (fun c68 => ?_) (fun c68 => ?_)
  · skip
    refine lv_iconst (v := 0) hx hb dX7_readsPart_75 (by decide) ?_
    have eZ : nI (fgp T n 0 6 (i + 1)) = nI (prP T n i) := pp4 hr
    obtain ⟨hP, hD⟩ := PD_re (wn := List.flatten [mdO m0 m1 m2 m3 th sv kp (nI n) (nI (prP T n i)) (cod T n i) (fgv T n 0 6 (i + 1)) sd hs, arC cI m1 1170 (enc B), arC cI m2 60 T, arC cI m3 8 h]) (by rw [eZ]) hP hD
    have eZ : fgv T n 0 6 (i + 1) = prF T n i := pf4 hr
    obtain ⟨hP, hD⟩ := PD_re (wn := List.flatten [mdO m0 m1 m2 m3 th sv kp (nI n) (nI (prP T n i)) (cod T n i) (prF T n i) sd hs, arC cI m1 1170 (enc B), arC cI m2 60 T, arC cI m3 8 h]) (by rw [eZ]) hP hD
    refine hend (sd) _ _ _ _ _ (by exact fun q => absurd (hr.symm.trans q) (by decide)) ?_ hP hD hS dX7_readsPart_76
    first | exact pro_n (fun q => q ((po4 hr).trans c68)) | exact pro_y (fun q => c68 ((po4 hr).symm.trans q))
  · skip
    refine lv_iconst (v := 1) hx hb dX7_readsPart_71 (by decide) ?_
    refine lv_goto (tgt := 76) hx hb dX7_readsPart_72 (by decide) ?_
    have eZ : nI (fgp T n 0 6 (i + 1)) = nI (prP T n i) := pp4 hr
    obtain ⟨hP, hD⟩ := PD_re (wn := List.flatten [mdO m0 m1 m2 m3 th sv kp (nI n) (nI (prP T n i)) (cod T n i) (fgv T n 0 6 (i + 1)) sd hs, arC cI m1 1170 (enc B), arC cI m2 60 T, arC cI m3 8 h]) (by rw [eZ]) hP hD
    have eZ : fgv T n 0 6 (i + 1) = prF T n i := pf4 hr
    obtain ⟨hP, hD⟩ := PD_re (wn := List.flatten [mdO m0 m1 m2 m3 th sv kp (nI n) (nI (prP T n i)) (cod T n i) (prF T n i) sd hs, arC cI m1 1170 (enc B), arC cI m2 60 T, arC cI m3 8 h]) (by rw [eZ]) hP hD
    refine hend (sd) _ _ _ _ _ (by exact fun q => absurd (hr.symm.trans q) (by decide)) ?_ hP hD hS dX7_readsPart_76
    first | exact pro_n (fun q => q ((po4 hr).trans c68)) | exact pro_y (fun q => c68 ((po4 hr).symm.trans q))

set_option maxHeartbeats 4000000 in
set_option maxRecDepth 100000 in
theorem c_X7_readsPart100 (l : Launch) (D : va_G) (cI cZ cS cJ : ClassId) (m0 : Nat) (m1 : Nat) (m2 : Nat) (m3 : Nat) (th : Int32) (sv : Int32) (kp : Int32) (lt : Int32) (fi : Int32) (sd : Int32) (hs : Int64) (B : Nat → Nat → Nat → Int32) (T : Nat → Int32) (h : Nat → Int32) (n : Nat) (i : Nat) (hn60 : n ≤ 60) (hin : i ≤ n) (hc : cod T n i = 100) : CE (U := (Int32)) l yX7_readsPart wsX7_readsPart ({ frames := 3, cells := 0, slots := 0, locals := 67 }) D (tyL cI cZ cS cJ) [.ref m0] (List.flatten [mdO m0 m1 m2 m3 th sv kp (nI n) (nI i) lt fi sd hs, arC cI m1 1170 (enc B), arC cI m2 60 T, arC cI m3 8 h]) (fun u => (rdL (cod T n i) = 2 → u = prS T n i)) (fun u => some (.int (b1 (prO T n i)))) (fun u => List.flatten [mdO m0 m1 m2 m3 th sv kp (nI n) (nI (prP T n i)) (cod T n i) (prF T n i) u hs, arC cI m1 1170 (enc B), arC cI m2 60 T, arC cI m3 8 h]) 0 0 := by
  refine CE_int (cc := cX7_readsPart) (maxL := 1) (rt := .boolean) (by decide) rfl (Nat.le_of_ble_eq_true rfl) (fun _ _ => nar_b1 _) ?_
  intro p e s m below meth c A ls Q X hK hP hD hS hA hl hend
  have X : CallFix p m c cX7_readsPart 1 s ([.ref m0] : List Value).toArray wsX7_readsPart RX7 := X
  obtain ⟨hx, hb, hml, hown, hts⟩ := id X
  have hl : lv_has ls 1 [(0, .ref m0)] := hl
  have hinX7 : ∀ w ∈ u_ws RX7 TX7 12, w ∈ wsX7_readsPart := by decide +kernel
  have hr : rdL (cod T n i) = 3 := by rw [hc]; rfl
  refine lv_aload_n hx hb dX7_readsPart_0 rfl (lv_at hl 0 rfl) ?_
  refine lv_aload_n hx hb dX7_readsPart_1 rfl (lv_at hl 0 rfl) ?_
  refine kcallV (As := []) (rest := [.ref m0]) (Wn := [mdO m0 m1 m2 m3 th sv kp (nI n) (nI i) lt fi sd hs, arC cI m1 1170 (enc B), arC cI m2 60 T, arC cI m3 8 h]) X (c_X7_sign l D cI cZ cS cJ m0 m1 m2 m3 th sv kp lt fi sd hs B T h n i (by omega) (by omega)) (cwV 0 hts gX7_readsPart_X7_sign rfl rfl rfl (by decide +kernel) ⟨Nat.le_of_ble_eq_true rfl, Nat.le_of_ble_eq_true rfl⟩) hK hP hD hS hA [0, 1, 2, 3] rfl (by decide +kernel) rfl rfl rfl 0 7 rfl rfl rfl hl.1 rfl (Nat.le_of_ble_eq_true rfl) dX7_readsPart_2 ⟨Nat.le_of_ble_eq_true rfl, Nat.le_of_ble_eq_true rfl⟩ (fun H locs hP hD hS => ?_)
  refine va_put (D := D) (ci := 7) (v := .int (cod T n i)) (ty := .int) (C := RX7) (T := TX7) (N := 12) hx hb hts hinX7 tyX7 tyX7_ok nmX7 hown hK hP hD hS 0 rfl rfl 7 (by decide) (hts (.fieldLink RX7 165 "RibbonBalloonsModel" "letter" "I") (by decide +kernel)) (fun _ h9 => h9) rfl (by decide +kernel) rfl rfl (Nat.le_of_ble_eq_true rfl) dX7_readsPart_5 (fun H locs hP hD hS => ?_)
  have hP : va_P D vwCl (List.flatten [mdO m0 m1 m2 m3 th sv kp (nI n) (nI i) (cod T n i) fi sd hs, arC cI m1 1170 (enc B), arC cI m2 60 T, arC cI m3 8 h]) _ := hP
  have hD : va_D A (List.flatten [mdO m0 m1 m2 m3 th sv kp (nI n) (nI i) (cod T n i) fi sd hs, arC cI m1 1170 (enc B), arC cI m2 60 T, arC cI m3 8 h]) := hD
  refine lv_aload_n hx hb dX7_readsPart_8 rfl (lv_at hl 0 rfl) ?_
  refine lv_bipush (v := 104) hx hb dX7_readsPart_9 (by decide) ?_
  refine kcallV (As := [.int 104]) (rest := []) (Wn := [mdO m0 m1 m2 m3 th sv kp (nI n) (nI (tkp T n i 104)) (cod T n i) fi sd hs, arC cI m1 1170 (enc B), arC cI m2 60 T, arC cI m3 8 h]) X (c_X7_takes l D cI cZ cS cJ m0 m1 m2 m3 th sv kp (cod T n i) fi sd hs B T h n i 104 (by omega) (by omega)) (cwV 1 hts gX7_readsPart_X7_takes rfl rfl rfl (by decide +kernel) ⟨Nat.le_of_ble_eq_true rfl, Nat.le_of_ble_eq_true rfl⟩) hK hP hD hS hA [0, 1, 2, 3] rfl (by decide +kernel) rfl rfl rfl 0 7 rfl rfl rfl hl.1 rfl (Nat.le_of_ble_eq_true rfl) dX7_readsPart_11 ⟨Nat.le_of_ble_eq_true rfl, Nat.le_of_ble_eq_true rfl⟩ (fun H locs hP hD hS => ?_)
  refine lv_if_eq (tgt := 41) hx hb dX7_readsPart_14 (by decide) (fun _ => ?_) (fun h => absurd (b1_no (by rw [hc]; decide)) h)
  have eZ : nI (tkp T n i 104) = nI i := congrArg nI (tkp_n (by rw [hc]; decide))
  obtain ⟨hP, hD⟩ := PD_re (wn := List.flatten [mdO m0 m1 m2 m3 th sv kp (nI n) (nI i) (cod T n i) fi sd hs, arC cI m1 1170 (enc B), arC cI m2 60 T, arC cI m3 8 h]) (by rw [eZ]) hP hD
  refine lv_aload_n hx hb dX7_readsPart_41 rfl (lv_at hl 0 rfl) ?_
  refine lv_bipush (v := 99) hx hb dX7_readsPart_42 (by decide) ?_
  refine kcallV (As := [.int 99]) (rest := []) (Wn := [mdO m0 m1 m2 m3 th sv kp (nI n) (nI (tkp T n i 99)) (cod T n i) fi sd hs, arC cI m1 1170 (enc B), arC cI m2 60 T, arC cI m3 8 h]) X (c_X7_takes l D cI cZ cS cJ m0 m1 m2 m3 th sv kp (cod T n i) fi sd hs B T h n i 99 (by omega) (by omega)) (cwV 1 hts gX7_readsPart_X7_takes rfl rfl rfl (by decide +kernel) ⟨Nat.le_of_ble_eq_true rfl, Nat.le_of_ble_eq_true rfl⟩) hK hP hD hS hA [0, 1, 2, 3] rfl (by decide +kernel) rfl rfl rfl 0 7 rfl rfl rfl hl.1 rfl (Nat.le_of_ble_eq_true rfl) dX7_readsPart_44 ⟨Nat.le_of_ble_eq_true rfl, Nat.le_of_ble_eq_true rfl⟩ (fun H locs hP hD hS => ?_)
  refine lv_if_eq (tgt := 77) hx hb dX7_readsPart_47 (by decide) (fun _ => ?_) (fun h => absurd (b1_no (by rw [hc]; decide)) h)
  have eZ : nI (tkp T n i 99) = nI i := congrArg nI (tkp_n (by rw [hc]; decide))
  obtain ⟨hP, hD⟩ := PD_re (wn := List.flatten [mdO m0 m1 m2 m3 th sv kp (nI n) (nI i) (cod T n i) fi sd hs, arC cI m1 1170 (enc B), arC cI m2 60 T, arC cI m3 8 h]) (by rw [eZ]) hP hD
  refine lv_aload_n hx hb dX7_readsPart_77 rfl (lv_at hl 0 rfl) ?_
  refine lv_bipush (v := 100) hx hb dX7_readsPart_78 (by decide) ?_
  refine kcallV (As := [.int 100]) (rest := []) (Wn := [mdO m0 m1 m2 m3 th sv kp (nI n) (nI (tkp T n i 100)) (cod T n i) fi sd hs, arC cI m1 1170 (enc B), arC cI m2 60 T, arC cI m3 8 h]) X (c_X7_takes l D cI cZ cS cJ m0 m1 m2 m3 th sv kp (cod T n i) fi sd hs B T h n i 100 (by omega) (by omega)) (cwV 1 hts gX7_readsPart_X7_takes rfl rfl rfl (by decide +kernel) ⟨Nat.le_of_ble_eq_true rfl, Nat.le_of_ble_eq_true rfl⟩) hK hP hD hS hA [0, 1, 2, 3] rfl (by decide +kernel) rfl rfl rfl 0 7 rfl rfl rfl hl.1 rfl (Nat.le_of_ble_eq_true rfl) dX7_readsPart_80 ⟨Nat.le_of_ble_eq_true rfl, Nat.le_of_ble_eq_true rfl⟩ (fun H locs hP hD hS => ?_)
  refine lv_if_ne (tgt := 104) hx hb dX7_readsPart_83 (by decide) (fun _ => ?_) (fun h => absurd h (b1_of hc))
  have eZ : nI (tkp T n i 100) = nI (i + 1) := congrArg nI (tkp_y hc)
  obtain ⟨hP, hD⟩ := PD_re (wn := List.flatten [mdO m0 m1 m2 m3 th sv kp (nI n) (nI (i + 1)) (cod T n i) fi sd hs, arC cI m1 1170 (enc B), arC cI m2 60 T, arC cI m3 8 h]) (by rw [eZ]) hP hD
  have hi1 : i + 1 ≤ n := cod_lt hc (by decide)
  refine lv_aload_n hx hb dX7_readsPart_104 rfl (lv_at hl 0 rfl) ?_
  refine lv_aload_n hx hb dX7_readsPart_105 rfl (lv_at hl 0 rfl) ?_
  refine lv_iconst (v := 0) hx hb dX7_readsPart_106 (by decide) ?_
  refine lv_bipush (v := 7) hx hb dX7_readsPart_107 (by decide) ?_
  refine kcallV (As := [.int 0, .int 7]) (rest := [.ref m0]) (Wn := [mdO m0 m1 m2 m3 th sv kp (nI n) (nI (fgp T n 0 7 (i + 1))) (cod T n i) fi sd hs, arC cI m1 1170 (enc B), arC cI m2 60 T, arC cI m3 8 h]) X (c_X7_figure l D cI cZ cS cJ m0 m1 m2 m3 th sv kp (cod T n i) fi sd hs B T h n (i + 1) 0 7 (by omega) (by omega) dg7) (cwV 2 hts gX7_readsPart_X7_figure rfl rfl rfl (by decide +kernel) ⟨Nat.le_of_ble_eq_true rfl, Nat.le_of_ble_eq_true rfl⟩) hK hP hD hS hA [0, 1, 2, 3] rfl (by decide +kernel) rfl rfl rfl 0 7 rfl rfl rfl hl.1 rfl (Nat.le_of_ble_eq_true rfl) dX7_readsPart_109 ⟨Nat.le_of_ble_eq_true rfl, Nat.le_of_ble_eq_true rfl⟩ (fun H locs hP hD hS => ?_)
  refine va_put (D := D) (ci := 7) (v := .int (fgv T n 0 7 (i + 1))) (ty := .int) (C := RX7) (T := TX7) (N := 12) hx hb hts hinX7 tyX7 tyX7_ok nmX7 hown hK hP hD hS 0 rfl rfl 8 (by decide) (hts (.fieldLink RX7 174 "RibbonBalloonsModel" "first" "I") (by decide +kernel)) (fun _ h9 => h9) rfl (by decide +kernel) rfl rfl (Nat.le_of_ble_eq_true rfl) dX7_readsPart_112 (fun H locs hP hD hS => ?_)
  have hP : va_P D vwCl (List.flatten [mdO m0 m1 m2 m3 th sv kp (nI n) (nI (fgp T n 0 7 (i + 1))) (cod T n i) (fgv T n 0 7 (i + 1)) sd hs, arC cI m1 1170 (enc B), arC cI m2 60 T, arC cI m3 8 h]) _ := hP
  have hD : va_D A (List.flatten [mdO m0 m1 m2 m3 th sv kp (nI n) (nI (fgp T n 0 7 (i + 1))) (cod T n i) (fgv T n 0 7 (i + 1)) sd hs, arC cI m1 1170 (enc B), arC cI m2 60 T, arC cI m3 8 h]) := hD
  refine lv_aload_n hx hb dX7_readsPart_115 rfl (lv_at hl 0 rfl) ?_
  refine va_get (D := D) (ci := 7) (v := .int (fgv T n 0 7 (i + 1))) (C := RX7) (T := TX7) (N := 12) hx hb hts hinX7 hown hK hP 0 rfl rfl 8 (by decide) (hts (.fieldLink RX7 174 "RibbonBalloonsModel" "first" "I") (by decide +kernel)) (fun _ h9 => h9) rfl dX7_readsPart_116 ?_
  refine lv_sipush (v := (-1000)) hx hb dX7_readsPart_119 (by decide) ?_
  refine lv_icmp_eq (tgt := 129) hx hb dX7_readsPart_122 (by decide) (fun c122 => ?_) (fun c122 => ?_)
  · skip
    refine lv_iconst (v := 0) hx hb dX7_readsPart_129 (by decide) ?_
    have eZ : nI (fgp T n 0 7 (i + 1)) = nI (prP T n i) := pp3 hr
    obtain ⟨hP, hD⟩ := PD_re (wn := List.flatten [mdO m0 m1 m2 m3 th sv kp (nI n) (nI (prP T n i)) (cod T n i) (fgv T n 0 7 (i + 1)) sd hs, arC cI m1 1170 (enc B), arC cI m2 60 T, arC cI m3 8 h]) (by rw [eZ]) hP hD
    have eZ : fgv T n 0 7 (i + 1) = prF T n i := pf3 hr
    obtain ⟨hP, hD⟩ := PD_re (wn := List.flatten [mdO m0 m1 m2 m3 th sv kp (nI n) (nI (prP T n i)) (cod T n i) (prF T n i) sd hs, arC cI m1 1170 (enc B), arC cI m2 60 T, arC cI m3 8 h]) (by rw [eZ]) hP hD
    refine hend (sd) _ _ _ _ _ (by exact fun q => absurd (hr.symm.trans q) (by decide)) ?_ hP hD hS dX7_readsPart_130
    first | exact pro_n (fun q => q ((po3 hr).trans c122)) | exact pro_y (fun q => c122 ((po3 hr).symm.trans q))
  · skip
    refine lv_iconst (v := 1) hx hb dX7_readsPart_125 (by decide) ?_
    refine lv_goto (tgt := 130) hx hb dX7_readsPart_126 (by decide) ?_
    have eZ : nI (fgp T n 0 7 (i + 1)) = nI (prP T n i) := pp3 hr
    obtain ⟨hP, hD⟩ := PD_re (wn := List.flatten [mdO m0 m1 m2 m3 th sv kp (nI n) (nI (prP T n i)) (cod T n i) (fgv T n 0 7 (i + 1)) sd hs, arC cI m1 1170 (enc B), arC cI m2 60 T, arC cI m3 8 h]) (by rw [eZ]) hP hD
    have eZ : fgv T n 0 7 (i + 1) = prF T n i := pf3 hr
    obtain ⟨hP, hD⟩ := PD_re (wn := List.flatten [mdO m0 m1 m2 m3 th sv kp (nI n) (nI (prP T n i)) (cod T n i) (prF T n i) sd hs, arC cI m1 1170 (enc B), arC cI m2 60 T, arC cI m3 8 h]) (by rw [eZ]) hP hD
    refine hend (sd) _ _ _ _ _ (by exact fun q => absurd (hr.symm.trans q) (by decide)) ?_ hP hD hS dX7_readsPart_130
    first | exact pro_n (fun q => q ((po3 hr).trans c122)) | exact pro_y (fun q => c122 ((po3 hr).symm.trans q))

set_option maxHeartbeats 4000000 in
set_option maxRecDepth 100000 in
theorem c_X7_readsPart112 (l : Launch) (D : va_G) (cI cZ cS cJ : ClassId) (m0 : Nat) (m1 : Nat) (m2 : Nat) (m3 : Nat) (th : Int32) (sv : Int32) (kp : Int32) (lt : Int32) (fi : Int32) (sd : Int32) (hs : Int64) (B : Nat → Nat → Nat → Int32) (T : Nat → Int32) (h : Nat → Int32) (n : Nat) (i : Nat) (hn60 : n ≤ 60) (hin : i ≤ n) (hc : cod T n i = 112) : CE (U := (Int32)) l yX7_readsPart wsX7_readsPart ({ frames := 3, cells := 0, slots := 0, locals := 67 }) D (tyL cI cZ cS cJ) [.ref m0] (List.flatten [mdO m0 m1 m2 m3 th sv kp (nI n) (nI i) lt fi sd hs, arC cI m1 1170 (enc B), arC cI m2 60 T, arC cI m3 8 h]) (fun u => (rdL (cod T n i) = 2 → u = prS T n i)) (fun u => some (.int (b1 (prO T n i)))) (fun u => List.flatten [mdO m0 m1 m2 m3 th sv kp (nI n) (nI (prP T n i)) (cod T n i) (prF T n i) u hs, arC cI m1 1170 (enc B), arC cI m2 60 T, arC cI m3 8 h]) 0 0 := by
  refine CE_int (cc := cX7_readsPart) (maxL := 1) (rt := .boolean) (by decide) rfl (Nat.le_of_ble_eq_true rfl) (fun _ _ => nar_b1 _) ?_
  intro p e s m below meth c A ls Q X hK hP hD hS hA hl hend
  have X : CallFix p m c cX7_readsPart 1 s ([.ref m0] : List Value).toArray wsX7_readsPart RX7 := X
  obtain ⟨hx, hb, hml, hown, hts⟩ := id X
  have hl : lv_has ls 1 [(0, .ref m0)] := hl
  have hinX7 : ∀ w ∈ u_ws RX7 TX7 12, w ∈ wsX7_readsPart := by decide +kernel
  have hr : rdL (cod T n i) = 3 := by rw [hc]; rfl
  refine lv_aload_n hx hb dX7_readsPart_0 rfl (lv_at hl 0 rfl) ?_
  refine lv_aload_n hx hb dX7_readsPart_1 rfl (lv_at hl 0 rfl) ?_
  refine kcallV (As := []) (rest := [.ref m0]) (Wn := [mdO m0 m1 m2 m3 th sv kp (nI n) (nI i) lt fi sd hs, arC cI m1 1170 (enc B), arC cI m2 60 T, arC cI m3 8 h]) X (c_X7_sign l D cI cZ cS cJ m0 m1 m2 m3 th sv kp lt fi sd hs B T h n i (by omega) (by omega)) (cwV 0 hts gX7_readsPart_X7_sign rfl rfl rfl (by decide +kernel) ⟨Nat.le_of_ble_eq_true rfl, Nat.le_of_ble_eq_true rfl⟩) hK hP hD hS hA [0, 1, 2, 3] rfl (by decide +kernel) rfl rfl rfl 0 7 rfl rfl rfl hl.1 rfl (Nat.le_of_ble_eq_true rfl) dX7_readsPart_2 ⟨Nat.le_of_ble_eq_true rfl, Nat.le_of_ble_eq_true rfl⟩ (fun H locs hP hD hS => ?_)
  refine va_put (D := D) (ci := 7) (v := .int (cod T n i)) (ty := .int) (C := RX7) (T := TX7) (N := 12) hx hb hts hinX7 tyX7 tyX7_ok nmX7 hown hK hP hD hS 0 rfl rfl 7 (by decide) (hts (.fieldLink RX7 165 "RibbonBalloonsModel" "letter" "I") (by decide +kernel)) (fun _ h9 => h9) rfl (by decide +kernel) rfl rfl (Nat.le_of_ble_eq_true rfl) dX7_readsPart_5 (fun H locs hP hD hS => ?_)
  have hP : va_P D vwCl (List.flatten [mdO m0 m1 m2 m3 th sv kp (nI n) (nI i) (cod T n i) fi sd hs, arC cI m1 1170 (enc B), arC cI m2 60 T, arC cI m3 8 h]) _ := hP
  have hD : va_D A (List.flatten [mdO m0 m1 m2 m3 th sv kp (nI n) (nI i) (cod T n i) fi sd hs, arC cI m1 1170 (enc B), arC cI m2 60 T, arC cI m3 8 h]) := hD
  refine lv_aload_n hx hb dX7_readsPart_8 rfl (lv_at hl 0 rfl) ?_
  refine lv_bipush (v := 104) hx hb dX7_readsPart_9 (by decide) ?_
  refine kcallV (As := [.int 104]) (rest := []) (Wn := [mdO m0 m1 m2 m3 th sv kp (nI n) (nI (tkp T n i 104)) (cod T n i) fi sd hs, arC cI m1 1170 (enc B), arC cI m2 60 T, arC cI m3 8 h]) X (c_X7_takes l D cI cZ cS cJ m0 m1 m2 m3 th sv kp (cod T n i) fi sd hs B T h n i 104 (by omega) (by omega)) (cwV 1 hts gX7_readsPart_X7_takes rfl rfl rfl (by decide +kernel) ⟨Nat.le_of_ble_eq_true rfl, Nat.le_of_ble_eq_true rfl⟩) hK hP hD hS hA [0, 1, 2, 3] rfl (by decide +kernel) rfl rfl rfl 0 7 rfl rfl rfl hl.1 rfl (Nat.le_of_ble_eq_true rfl) dX7_readsPart_11 ⟨Nat.le_of_ble_eq_true rfl, Nat.le_of_ble_eq_true rfl⟩ (fun H locs hP hD hS => ?_)
  refine lv_if_eq (tgt := 41) hx hb dX7_readsPart_14 (by decide) (fun _ => ?_) (fun h => absurd (b1_no (by rw [hc]; decide)) h)
  have eZ : nI (tkp T n i 104) = nI i := congrArg nI (tkp_n (by rw [hc]; decide))
  obtain ⟨hP, hD⟩ := PD_re (wn := List.flatten [mdO m0 m1 m2 m3 th sv kp (nI n) (nI i) (cod T n i) fi sd hs, arC cI m1 1170 (enc B), arC cI m2 60 T, arC cI m3 8 h]) (by rw [eZ]) hP hD
  refine lv_aload_n hx hb dX7_readsPart_41 rfl (lv_at hl 0 rfl) ?_
  refine lv_bipush (v := 99) hx hb dX7_readsPart_42 (by decide) ?_
  refine kcallV (As := [.int 99]) (rest := []) (Wn := [mdO m0 m1 m2 m3 th sv kp (nI n) (nI (tkp T n i 99)) (cod T n i) fi sd hs, arC cI m1 1170 (enc B), arC cI m2 60 T, arC cI m3 8 h]) X (c_X7_takes l D cI cZ cS cJ m0 m1 m2 m3 th sv kp (cod T n i) fi sd hs B T h n i 99 (by omega) (by omega)) (cwV 1 hts gX7_readsPart_X7_takes rfl rfl rfl (by decide +kernel) ⟨Nat.le_of_ble_eq_true rfl, Nat.le_of_ble_eq_true rfl⟩) hK hP hD hS hA [0, 1, 2, 3] rfl (by decide +kernel) rfl rfl rfl 0 7 rfl rfl rfl hl.1 rfl (Nat.le_of_ble_eq_true rfl) dX7_readsPart_44 ⟨Nat.le_of_ble_eq_true rfl, Nat.le_of_ble_eq_true rfl⟩ (fun H locs hP hD hS => ?_)
  refine lv_if_eq (tgt := 77) hx hb dX7_readsPart_47 (by decide) (fun _ => ?_) (fun h => absurd (b1_no (by rw [hc]; decide)) h)
  have eZ : nI (tkp T n i 99) = nI i := congrArg nI (tkp_n (by rw [hc]; decide))
  obtain ⟨hP, hD⟩ := PD_re (wn := List.flatten [mdO m0 m1 m2 m3 th sv kp (nI n) (nI i) (cod T n i) fi sd hs, arC cI m1 1170 (enc B), arC cI m2 60 T, arC cI m3 8 h]) (by rw [eZ]) hP hD
  refine lv_aload_n hx hb dX7_readsPart_77 rfl (lv_at hl 0 rfl) ?_
  refine lv_bipush (v := 100) hx hb dX7_readsPart_78 (by decide) ?_
  refine kcallV (As := [.int 100]) (rest := []) (Wn := [mdO m0 m1 m2 m3 th sv kp (nI n) (nI (tkp T n i 100)) (cod T n i) fi sd hs, arC cI m1 1170 (enc B), arC cI m2 60 T, arC cI m3 8 h]) X (c_X7_takes l D cI cZ cS cJ m0 m1 m2 m3 th sv kp (cod T n i) fi sd hs B T h n i 100 (by omega) (by omega)) (cwV 1 hts gX7_readsPart_X7_takes rfl rfl rfl (by decide +kernel) ⟨Nat.le_of_ble_eq_true rfl, Nat.le_of_ble_eq_true rfl⟩) hK hP hD hS hA [0, 1, 2, 3] rfl (by decide +kernel) rfl rfl rfl 0 7 rfl rfl rfl hl.1 rfl (Nat.le_of_ble_eq_true rfl) dX7_readsPart_80 ⟨Nat.le_of_ble_eq_true rfl, Nat.le_of_ble_eq_true rfl⟩ (fun H locs hP hD hS => ?_)
  refine lv_if_ne (tgt := 104) hx hb dX7_readsPart_83 (by decide) (fun h => absurd h (not_not_intro (b1_no (by rw [hc]; decide)))) (fun _ => ?_)
  have eZ : nI (tkp T n i 100) = nI i := congrArg nI (tkp_n (by rw [hc]; decide))
  obtain ⟨hP, hD⟩ := PD_re (wn := List.flatten [mdO m0 m1 m2 m3 th sv kp (nI n) (nI i) (cod T n i) fi sd hs, arC cI m1 1170 (enc B), arC cI m2 60 T, arC cI m3 8 h]) (by rw [eZ]) hP hD
  refine lv_aload_n hx hb dX7_readsPart_86 rfl (lv_at hl 0 rfl) ?_
  refine lv_bipush (v := 112) hx hb dX7_readsPart_87 (by decide) ?_
  refine kcallV (As := [.int 112]) (rest := []) (Wn := [mdO m0 m1 m2 m3 th sv kp (nI n) (nI (tkp T n i 112)) (cod T n i) fi sd hs, arC cI m1 1170 (enc B), arC cI m2 60 T, arC cI m3 8 h]) X (c_X7_takes l D cI cZ cS cJ m0 m1 m2 m3 th sv kp (cod T n i) fi sd hs B T h n i 112 (by omega) (by omega)) (cwV 1 hts gX7_readsPart_X7_takes rfl rfl rfl (by decide +kernel) ⟨Nat.le_of_ble_eq_true rfl, Nat.le_of_ble_eq_true rfl⟩) hK hP hD hS hA [0, 1, 2, 3] rfl (by decide +kernel) rfl rfl rfl 0 7 rfl rfl rfl hl.1 rfl (Nat.le_of_ble_eq_true rfl) dX7_readsPart_89 ⟨Nat.le_of_ble_eq_true rfl, Nat.le_of_ble_eq_true rfl⟩ (fun H locs hP hD hS => ?_)
  refine lv_if_ne (tgt := 104) hx hb dX7_readsPart_92 (by decide) (fun _ => ?_) (fun h => absurd h (b1_of hc))
  have eZ : nI (tkp T n i 112) = nI (i + 1) := congrArg nI (tkp_y hc)
  obtain ⟨hP, hD⟩ := PD_re (wn := List.flatten [mdO m0 m1 m2 m3 th sv kp (nI n) (nI (i + 1)) (cod T n i) fi sd hs, arC cI m1 1170 (enc B), arC cI m2 60 T, arC cI m3 8 h]) (by rw [eZ]) hP hD
  have hi1 : i + 1 ≤ n := cod_lt hc (by decide)
  refine lv_aload_n hx hb dX7_readsPart_104 rfl (lv_at hl 0 rfl) ?_
  refine lv_aload_n hx hb dX7_readsPart_105 rfl (lv_at hl 0 rfl) ?_
  refine lv_iconst (v := 0) hx hb dX7_readsPart_106 (by decide) ?_
  refine lv_bipush (v := 7) hx hb dX7_readsPart_107 (by decide) ?_
  refine kcallV (As := [.int 0, .int 7]) (rest := [.ref m0]) (Wn := [mdO m0 m1 m2 m3 th sv kp (nI n) (nI (fgp T n 0 7 (i + 1))) (cod T n i) fi sd hs, arC cI m1 1170 (enc B), arC cI m2 60 T, arC cI m3 8 h]) X (c_X7_figure l D cI cZ cS cJ m0 m1 m2 m3 th sv kp (cod T n i) fi sd hs B T h n (i + 1) 0 7 (by omega) (by omega) dg7) (cwV 2 hts gX7_readsPart_X7_figure rfl rfl rfl (by decide +kernel) ⟨Nat.le_of_ble_eq_true rfl, Nat.le_of_ble_eq_true rfl⟩) hK hP hD hS hA [0, 1, 2, 3] rfl (by decide +kernel) rfl rfl rfl 0 7 rfl rfl rfl hl.1 rfl (Nat.le_of_ble_eq_true rfl) dX7_readsPart_109 ⟨Nat.le_of_ble_eq_true rfl, Nat.le_of_ble_eq_true rfl⟩ (fun H locs hP hD hS => ?_)
  refine va_put (D := D) (ci := 7) (v := .int (fgv T n 0 7 (i + 1))) (ty := .int) (C := RX7) (T := TX7) (N := 12) hx hb hts hinX7 tyX7 tyX7_ok nmX7 hown hK hP hD hS 0 rfl rfl 8 (by decide) (hts (.fieldLink RX7 174 "RibbonBalloonsModel" "first" "I") (by decide +kernel)) (fun _ h9 => h9) rfl (by decide +kernel) rfl rfl (Nat.le_of_ble_eq_true rfl) dX7_readsPart_112 (fun H locs hP hD hS => ?_)
  have hP : va_P D vwCl (List.flatten [mdO m0 m1 m2 m3 th sv kp (nI n) (nI (fgp T n 0 7 (i + 1))) (cod T n i) (fgv T n 0 7 (i + 1)) sd hs, arC cI m1 1170 (enc B), arC cI m2 60 T, arC cI m3 8 h]) _ := hP
  have hD : va_D A (List.flatten [mdO m0 m1 m2 m3 th sv kp (nI n) (nI (fgp T n 0 7 (i + 1))) (cod T n i) (fgv T n 0 7 (i + 1)) sd hs, arC cI m1 1170 (enc B), arC cI m2 60 T, arC cI m3 8 h]) := hD
  refine lv_aload_n hx hb dX7_readsPart_115 rfl (lv_at hl 0 rfl) ?_
  refine va_get (D := D) (ci := 7) (v := .int (fgv T n 0 7 (i + 1))) (C := RX7) (T := TX7) (N := 12) hx hb hts hinX7 hown hK hP 0 rfl rfl 8 (by decide) (hts (.fieldLink RX7 174 "RibbonBalloonsModel" "first" "I") (by decide +kernel)) (fun _ h9 => h9) rfl dX7_readsPart_116 ?_
  refine lv_sipush (v := (-1000)) hx hb dX7_readsPart_119 (by decide) ?_
  refine lv_icmp_eq (tgt := 129) hx hb dX7_readsPart_122 (by decide) (fun c122 => ?_) (fun c122 => ?_)
  · skip
    refine lv_iconst (v := 0) hx hb dX7_readsPart_129 (by decide) ?_
    have eZ : nI (fgp T n 0 7 (i + 1)) = nI (prP T n i) := pp3 hr
    obtain ⟨hP, hD⟩ := PD_re (wn := List.flatten [mdO m0 m1 m2 m3 th sv kp (nI n) (nI (prP T n i)) (cod T n i) (fgv T n 0 7 (i + 1)) sd hs, arC cI m1 1170 (enc B), arC cI m2 60 T, arC cI m3 8 h]) (by rw [eZ]) hP hD
    have eZ : fgv T n 0 7 (i + 1) = prF T n i := pf3 hr
    obtain ⟨hP, hD⟩ := PD_re (wn := List.flatten [mdO m0 m1 m2 m3 th sv kp (nI n) (nI (prP T n i)) (cod T n i) (prF T n i) sd hs, arC cI m1 1170 (enc B), arC cI m2 60 T, arC cI m3 8 h]) (by rw [eZ]) hP hD
    refine hend (sd) _ _ _ _ _ (by exact fun q => absurd (hr.symm.trans q) (by decide)) ?_ hP hD hS dX7_readsPart_130
    first | exact pro_n (fun q => q ((po3 hr).trans c122)) | exact pro_y (fun q => c122 ((po3 hr).symm.trans q))
  · skip
    refine lv_iconst (v := 1) hx hb dX7_readsPart_125 (by decide) ?_
    refine lv_goto (tgt := 130) hx hb dX7_readsPart_126 (by decide) ?_
    have eZ : nI (fgp T n 0 7 (i + 1)) = nI (prP T n i) := pp3 hr
    obtain ⟨hP, hD⟩ := PD_re (wn := List.flatten [mdO m0 m1 m2 m3 th sv kp (nI n) (nI (prP T n i)) (cod T n i) (fgv T n 0 7 (i + 1)) sd hs, arC cI m1 1170 (enc B), arC cI m2 60 T, arC cI m3 8 h]) (by rw [eZ]) hP hD
    have eZ : fgv T n 0 7 (i + 1) = prF T n i := pf3 hr
    obtain ⟨hP, hD⟩ := PD_re (wn := List.flatten [mdO m0 m1 m2 m3 th sv kp (nI n) (nI (prP T n i)) (cod T n i) (prF T n i) sd hs, arC cI m1 1170 (enc B), arC cI m2 60 T, arC cI m3 8 h]) (by rw [eZ]) hP hD
    refine hend (sd) _ _ _ _ _ (by exact fun q => absurd (hr.symm.trans q) (by decide)) ?_ hP hD hS dX7_readsPart_130
    first | exact pro_n (fun q => q ((po3 hr).trans c122)) | exact pro_y (fun q => c122 ((po3 hr).symm.trans q))

set_option maxHeartbeats 4000000 in
set_option maxRecDepth 100000 in
theorem c_X7_readsPart110 (l : Launch) (D : va_G) (cI cZ cS cJ : ClassId) (m0 : Nat) (m1 : Nat) (m2 : Nat) (m3 : Nat) (th : Int32) (sv : Int32) (kp : Int32) (lt : Int32) (fi : Int32) (sd : Int32) (hs : Int64) (B : Nat → Nat → Nat → Int32) (T : Nat → Int32) (h : Nat → Int32) (n : Nat) (i : Nat) (hn60 : n ≤ 60) (hin : i ≤ n) (hc : cod T n i = 110) : CE (U := (Int32)) l yX7_readsPart wsX7_readsPart ({ frames := 3, cells := 0, slots := 0, locals := 67 }) D (tyL cI cZ cS cJ) [.ref m0] (List.flatten [mdO m0 m1 m2 m3 th sv kp (nI n) (nI i) lt fi sd hs, arC cI m1 1170 (enc B), arC cI m2 60 T, arC cI m3 8 h]) (fun u => (rdL (cod T n i) = 2 → u = prS T n i)) (fun u => some (.int (b1 (prO T n i)))) (fun u => List.flatten [mdO m0 m1 m2 m3 th sv kp (nI n) (nI (prP T n i)) (cod T n i) (prF T n i) u hs, arC cI m1 1170 (enc B), arC cI m2 60 T, arC cI m3 8 h]) 0 0 := by
  refine CE_int (cc := cX7_readsPart) (maxL := 1) (rt := .boolean) (by decide) rfl (Nat.le_of_ble_eq_true rfl) (fun _ _ => nar_b1 _) ?_
  intro p e s m below meth c A ls Q X hK hP hD hS hA hl hend
  have X : CallFix p m c cX7_readsPart 1 s ([.ref m0] : List Value).toArray wsX7_readsPart RX7 := X
  obtain ⟨hx, hb, hml, hown, hts⟩ := id X
  have hl : lv_has ls 1 [(0, .ref m0)] := hl
  have hinX7 : ∀ w ∈ u_ws RX7 TX7 12, w ∈ wsX7_readsPart := by decide +kernel
  have hr : rdL (cod T n i) = 3 := by rw [hc]; rfl
  refine lv_aload_n hx hb dX7_readsPart_0 rfl (lv_at hl 0 rfl) ?_
  refine lv_aload_n hx hb dX7_readsPart_1 rfl (lv_at hl 0 rfl) ?_
  refine kcallV (As := []) (rest := [.ref m0]) (Wn := [mdO m0 m1 m2 m3 th sv kp (nI n) (nI i) lt fi sd hs, arC cI m1 1170 (enc B), arC cI m2 60 T, arC cI m3 8 h]) X (c_X7_sign l D cI cZ cS cJ m0 m1 m2 m3 th sv kp lt fi sd hs B T h n i (by omega) (by omega)) (cwV 0 hts gX7_readsPart_X7_sign rfl rfl rfl (by decide +kernel) ⟨Nat.le_of_ble_eq_true rfl, Nat.le_of_ble_eq_true rfl⟩) hK hP hD hS hA [0, 1, 2, 3] rfl (by decide +kernel) rfl rfl rfl 0 7 rfl rfl rfl hl.1 rfl (Nat.le_of_ble_eq_true rfl) dX7_readsPart_2 ⟨Nat.le_of_ble_eq_true rfl, Nat.le_of_ble_eq_true rfl⟩ (fun H locs hP hD hS => ?_)
  refine va_put (D := D) (ci := 7) (v := .int (cod T n i)) (ty := .int) (C := RX7) (T := TX7) (N := 12) hx hb hts hinX7 tyX7 tyX7_ok nmX7 hown hK hP hD hS 0 rfl rfl 7 (by decide) (hts (.fieldLink RX7 165 "RibbonBalloonsModel" "letter" "I") (by decide +kernel)) (fun _ h9 => h9) rfl (by decide +kernel) rfl rfl (Nat.le_of_ble_eq_true rfl) dX7_readsPart_5 (fun H locs hP hD hS => ?_)
  have hP : va_P D vwCl (List.flatten [mdO m0 m1 m2 m3 th sv kp (nI n) (nI i) (cod T n i) fi sd hs, arC cI m1 1170 (enc B), arC cI m2 60 T, arC cI m3 8 h]) _ := hP
  have hD : va_D A (List.flatten [mdO m0 m1 m2 m3 th sv kp (nI n) (nI i) (cod T n i) fi sd hs, arC cI m1 1170 (enc B), arC cI m2 60 T, arC cI m3 8 h]) := hD
  refine lv_aload_n hx hb dX7_readsPart_8 rfl (lv_at hl 0 rfl) ?_
  refine lv_bipush (v := 104) hx hb dX7_readsPart_9 (by decide) ?_
  refine kcallV (As := [.int 104]) (rest := []) (Wn := [mdO m0 m1 m2 m3 th sv kp (nI n) (nI (tkp T n i 104)) (cod T n i) fi sd hs, arC cI m1 1170 (enc B), arC cI m2 60 T, arC cI m3 8 h]) X (c_X7_takes l D cI cZ cS cJ m0 m1 m2 m3 th sv kp (cod T n i) fi sd hs B T h n i 104 (by omega) (by omega)) (cwV 1 hts gX7_readsPart_X7_takes rfl rfl rfl (by decide +kernel) ⟨Nat.le_of_ble_eq_true rfl, Nat.le_of_ble_eq_true rfl⟩) hK hP hD hS hA [0, 1, 2, 3] rfl (by decide +kernel) rfl rfl rfl 0 7 rfl rfl rfl hl.1 rfl (Nat.le_of_ble_eq_true rfl) dX7_readsPart_11 ⟨Nat.le_of_ble_eq_true rfl, Nat.le_of_ble_eq_true rfl⟩ (fun H locs hP hD hS => ?_)
  refine lv_if_eq (tgt := 41) hx hb dX7_readsPart_14 (by decide) (fun _ => ?_) (fun h => absurd (b1_no (by rw [hc]; decide)) h)
  have eZ : nI (tkp T n i 104) = nI i := congrArg nI (tkp_n (by rw [hc]; decide))
  obtain ⟨hP, hD⟩ := PD_re (wn := List.flatten [mdO m0 m1 m2 m3 th sv kp (nI n) (nI i) (cod T n i) fi sd hs, arC cI m1 1170 (enc B), arC cI m2 60 T, arC cI m3 8 h]) (by rw [eZ]) hP hD
  refine lv_aload_n hx hb dX7_readsPart_41 rfl (lv_at hl 0 rfl) ?_
  refine lv_bipush (v := 99) hx hb dX7_readsPart_42 (by decide) ?_
  refine kcallV (As := [.int 99]) (rest := []) (Wn := [mdO m0 m1 m2 m3 th sv kp (nI n) (nI (tkp T n i 99)) (cod T n i) fi sd hs, arC cI m1 1170 (enc B), arC cI m2 60 T, arC cI m3 8 h]) X (c_X7_takes l D cI cZ cS cJ m0 m1 m2 m3 th sv kp (cod T n i) fi sd hs B T h n i 99 (by omega) (by omega)) (cwV 1 hts gX7_readsPart_X7_takes rfl rfl rfl (by decide +kernel) ⟨Nat.le_of_ble_eq_true rfl, Nat.le_of_ble_eq_true rfl⟩) hK hP hD hS hA [0, 1, 2, 3] rfl (by decide +kernel) rfl rfl rfl 0 7 rfl rfl rfl hl.1 rfl (Nat.le_of_ble_eq_true rfl) dX7_readsPart_44 ⟨Nat.le_of_ble_eq_true rfl, Nat.le_of_ble_eq_true rfl⟩ (fun H locs hP hD hS => ?_)
  refine lv_if_eq (tgt := 77) hx hb dX7_readsPart_47 (by decide) (fun _ => ?_) (fun h => absurd (b1_no (by rw [hc]; decide)) h)
  have eZ : nI (tkp T n i 99) = nI i := congrArg nI (tkp_n (by rw [hc]; decide))
  obtain ⟨hP, hD⟩ := PD_re (wn := List.flatten [mdO m0 m1 m2 m3 th sv kp (nI n) (nI i) (cod T n i) fi sd hs, arC cI m1 1170 (enc B), arC cI m2 60 T, arC cI m3 8 h]) (by rw [eZ]) hP hD
  refine lv_aload_n hx hb dX7_readsPart_77 rfl (lv_at hl 0 rfl) ?_
  refine lv_bipush (v := 100) hx hb dX7_readsPart_78 (by decide) ?_
  refine kcallV (As := [.int 100]) (rest := []) (Wn := [mdO m0 m1 m2 m3 th sv kp (nI n) (nI (tkp T n i 100)) (cod T n i) fi sd hs, arC cI m1 1170 (enc B), arC cI m2 60 T, arC cI m3 8 h]) X (c_X7_takes l D cI cZ cS cJ m0 m1 m2 m3 th sv kp (cod T n i) fi sd hs B T h n i 100 (by omega) (by omega)) (cwV 1 hts gX7_readsPart_X7_takes rfl rfl rfl (by decide +kernel) ⟨Nat.le_of_ble_eq_true rfl, Nat.le_of_ble_eq_true rfl⟩) hK hP hD hS hA [0, 1, 2, 3] rfl (by decide +kernel) rfl rfl rfl 0 7 rfl rfl rfl hl.1 rfl (Nat.le_of_ble_eq_true rfl) dX7_readsPart_80 ⟨Nat.le_of_ble_eq_true rfl, Nat.le_of_ble_eq_true rfl⟩ (fun H locs hP hD hS => ?_)
  refine lv_if_ne (tgt := 104) hx hb dX7_readsPart_83 (by decide) (fun h => absurd h (not_not_intro (b1_no (by rw [hc]; decide)))) (fun _ => ?_)
  have eZ : nI (tkp T n i 100) = nI i := congrArg nI (tkp_n (by rw [hc]; decide))
  obtain ⟨hP, hD⟩ := PD_re (wn := List.flatten [mdO m0 m1 m2 m3 th sv kp (nI n) (nI i) (cod T n i) fi sd hs, arC cI m1 1170 (enc B), arC cI m2 60 T, arC cI m3 8 h]) (by rw [eZ]) hP hD
  refine lv_aload_n hx hb dX7_readsPart_86 rfl (lv_at hl 0 rfl) ?_
  refine lv_bipush (v := 112) hx hb dX7_readsPart_87 (by decide) ?_
  refine kcallV (As := [.int 112]) (rest := []) (Wn := [mdO m0 m1 m2 m3 th sv kp (nI n) (nI (tkp T n i 112)) (cod T n i) fi sd hs, arC cI m1 1170 (enc B), arC cI m2 60 T, arC cI m3 8 h]) X (c_X7_takes l D cI cZ cS cJ m0 m1 m2 m3 th sv kp (cod T n i) fi sd hs B T h n i 112 (by omega) (by omega)) (cwV 1 hts gX7_readsPart_X7_takes rfl rfl rfl (by decide +kernel) ⟨Nat.le_of_ble_eq_true rfl, Nat.le_of_ble_eq_true rfl⟩) hK hP hD hS hA [0, 1, 2, 3] rfl (by decide +kernel) rfl rfl rfl 0 7 rfl rfl rfl hl.1 rfl (Nat.le_of_ble_eq_true rfl) dX7_readsPart_89 ⟨Nat.le_of_ble_eq_true rfl, Nat.le_of_ble_eq_true rfl⟩ (fun H locs hP hD hS => ?_)
  refine lv_if_ne (tgt := 104) hx hb dX7_readsPart_92 (by decide) (fun h => absurd h (not_not_intro (b1_no (by rw [hc]; decide)))) (fun _ => ?_)
  have eZ : nI (tkp T n i 112) = nI i := congrArg nI (tkp_n (by rw [hc]; decide))
  obtain ⟨hP, hD⟩ := PD_re (wn := List.flatten [mdO m0 m1 m2 m3 th sv kp (nI n) (nI i) (cod T n i) fi sd hs, arC cI m1 1170 (enc B), arC cI m2 60 T, arC cI m3 8 h]) (by rw [eZ]) hP hD
  refine lv_aload_n hx hb dX7_readsPart_95 rfl (lv_at hl 0 rfl) ?_
  refine lv_bipush (v := 110) hx hb dX7_readsPart_96 (by decide) ?_
  refine kcallV (As := [.int 110]) (rest := []) (Wn := [mdO m0 m1 m2 m3 th sv kp (nI n) (nI (tkp T n i 110)) (cod T n i) fi sd hs, arC cI m1 1170 (enc B), arC cI m2 60 T, arC cI m3 8 h]) X (c_X7_takes l D cI cZ cS cJ m0 m1 m2 m3 th sv kp (cod T n i) fi sd hs B T h n i 110 (by omega) (by omega)) (cwV 1 hts gX7_readsPart_X7_takes rfl rfl rfl (by decide +kernel) ⟨Nat.le_of_ble_eq_true rfl, Nat.le_of_ble_eq_true rfl⟩) hK hP hD hS hA [0, 1, 2, 3] rfl (by decide +kernel) rfl rfl rfl 0 7 rfl rfl rfl hl.1 rfl (Nat.le_of_ble_eq_true rfl) dX7_readsPart_98 ⟨Nat.le_of_ble_eq_true rfl, Nat.le_of_ble_eq_true rfl⟩ (fun H locs hP hD hS => ?_)
  refine lv_if_eq (tgt := 131) hx hb dX7_readsPart_101 (by decide) (fun h => absurd h (b1_of hc)) (fun _ => ?_)
  have eZ : nI (tkp T n i 110) = nI (i + 1) := congrArg nI (tkp_y hc)
  obtain ⟨hP, hD⟩ := PD_re (wn := List.flatten [mdO m0 m1 m2 m3 th sv kp (nI n) (nI (i + 1)) (cod T n i) fi sd hs, arC cI m1 1170 (enc B), arC cI m2 60 T, arC cI m3 8 h]) (by rw [eZ]) hP hD
  have hi1 : i + 1 ≤ n := cod_lt hc (by decide)
  refine lv_aload_n hx hb dX7_readsPart_104 rfl (lv_at hl 0 rfl) ?_
  refine lv_aload_n hx hb dX7_readsPart_105 rfl (lv_at hl 0 rfl) ?_
  refine lv_iconst (v := 0) hx hb dX7_readsPart_106 (by decide) ?_
  refine lv_bipush (v := 7) hx hb dX7_readsPart_107 (by decide) ?_
  refine kcallV (As := [.int 0, .int 7]) (rest := [.ref m0]) (Wn := [mdO m0 m1 m2 m3 th sv kp (nI n) (nI (fgp T n 0 7 (i + 1))) (cod T n i) fi sd hs, arC cI m1 1170 (enc B), arC cI m2 60 T, arC cI m3 8 h]) X (c_X7_figure l D cI cZ cS cJ m0 m1 m2 m3 th sv kp (cod T n i) fi sd hs B T h n (i + 1) 0 7 (by omega) (by omega) dg7) (cwV 2 hts gX7_readsPart_X7_figure rfl rfl rfl (by decide +kernel) ⟨Nat.le_of_ble_eq_true rfl, Nat.le_of_ble_eq_true rfl⟩) hK hP hD hS hA [0, 1, 2, 3] rfl (by decide +kernel) rfl rfl rfl 0 7 rfl rfl rfl hl.1 rfl (Nat.le_of_ble_eq_true rfl) dX7_readsPart_109 ⟨Nat.le_of_ble_eq_true rfl, Nat.le_of_ble_eq_true rfl⟩ (fun H locs hP hD hS => ?_)
  refine va_put (D := D) (ci := 7) (v := .int (fgv T n 0 7 (i + 1))) (ty := .int) (C := RX7) (T := TX7) (N := 12) hx hb hts hinX7 tyX7 tyX7_ok nmX7 hown hK hP hD hS 0 rfl rfl 8 (by decide) (hts (.fieldLink RX7 174 "RibbonBalloonsModel" "first" "I") (by decide +kernel)) (fun _ h9 => h9) rfl (by decide +kernel) rfl rfl (Nat.le_of_ble_eq_true rfl) dX7_readsPart_112 (fun H locs hP hD hS => ?_)
  have hP : va_P D vwCl (List.flatten [mdO m0 m1 m2 m3 th sv kp (nI n) (nI (fgp T n 0 7 (i + 1))) (cod T n i) (fgv T n 0 7 (i + 1)) sd hs, arC cI m1 1170 (enc B), arC cI m2 60 T, arC cI m3 8 h]) _ := hP
  have hD : va_D A (List.flatten [mdO m0 m1 m2 m3 th sv kp (nI n) (nI (fgp T n 0 7 (i + 1))) (cod T n i) (fgv T n 0 7 (i + 1)) sd hs, arC cI m1 1170 (enc B), arC cI m2 60 T, arC cI m3 8 h]) := hD
  refine lv_aload_n hx hb dX7_readsPart_115 rfl (lv_at hl 0 rfl) ?_
  refine va_get (D := D) (ci := 7) (v := .int (fgv T n 0 7 (i + 1))) (C := RX7) (T := TX7) (N := 12) hx hb hts hinX7 hown hK hP 0 rfl rfl 8 (by decide) (hts (.fieldLink RX7 174 "RibbonBalloonsModel" "first" "I") (by decide +kernel)) (fun _ h9 => h9) rfl dX7_readsPart_116 ?_
  refine lv_sipush (v := (-1000)) hx hb dX7_readsPart_119 (by decide) ?_
  refine lv_icmp_eq (tgt := 129) hx hb dX7_readsPart_122 (by decide) (fun c122 => ?_) (fun c122 => ?_)
  · skip
    refine lv_iconst (v := 0) hx hb dX7_readsPart_129 (by decide) ?_
    have eZ : nI (fgp T n 0 7 (i + 1)) = nI (prP T n i) := pp3 hr
    obtain ⟨hP, hD⟩ := PD_re (wn := List.flatten [mdO m0 m1 m2 m3 th sv kp (nI n) (nI (prP T n i)) (cod T n i) (fgv T n 0 7 (i + 1)) sd hs, arC cI m1 1170 (enc B), arC cI m2 60 T, arC cI m3 8 h]) (by rw [eZ]) hP hD
    have eZ : fgv T n 0 7 (i + 1) = prF T n i := pf3 hr
    obtain ⟨hP, hD⟩ := PD_re (wn := List.flatten [mdO m0 m1 m2 m3 th sv kp (nI n) (nI (prP T n i)) (cod T n i) (prF T n i) sd hs, arC cI m1 1170 (enc B), arC cI m2 60 T, arC cI m3 8 h]) (by rw [eZ]) hP hD
    refine hend (sd) _ _ _ _ _ (by exact fun q => absurd (hr.symm.trans q) (by decide)) ?_ hP hD hS dX7_readsPart_130
    first | exact pro_n (fun q => q ((po3 hr).trans c122)) | exact pro_y (fun q => c122 ((po3 hr).symm.trans q))
  · skip
    refine lv_iconst (v := 1) hx hb dX7_readsPart_125 (by decide) ?_
    refine lv_goto (tgt := 130) hx hb dX7_readsPart_126 (by decide) ?_
    have eZ : nI (fgp T n 0 7 (i + 1)) = nI (prP T n i) := pp3 hr
    obtain ⟨hP, hD⟩ := PD_re (wn := List.flatten [mdO m0 m1 m2 m3 th sv kp (nI n) (nI (prP T n i)) (cod T n i) (fgv T n 0 7 (i + 1)) sd hs, arC cI m1 1170 (enc B), arC cI m2 60 T, arC cI m3 8 h]) (by rw [eZ]) hP hD
    have eZ : fgv T n 0 7 (i + 1) = prF T n i := pf3 hr
    obtain ⟨hP, hD⟩ := PD_re (wn := List.flatten [mdO m0 m1 m2 m3 th sv kp (nI n) (nI (prP T n i)) (cod T n i) (prF T n i) sd hs, arC cI m1 1170 (enc B), arC cI m2 60 T, arC cI m3 8 h]) (by rw [eZ]) hP hD
    refine hend (sd) _ _ _ _ _ (by exact fun q => absurd (hr.symm.trans q) (by decide)) ?_ hP hD hS dX7_readsPart_130
    first | exact pro_n (fun q => q ((po3 hr).trans c122)) | exact pro_y (fun q => c122 ((po3 hr).symm.trans q))

set_option maxHeartbeats 4000000 in
set_option maxRecDepth 100000 in
theorem c_X7_readsPart102 (l : Launch) (D : va_G) (cI cZ cS cJ : ClassId) (m0 : Nat) (m1 : Nat) (m2 : Nat) (m3 : Nat) (th : Int32) (sv : Int32) (kp : Int32) (lt : Int32) (fi : Int32) (sd : Int32) (hs : Int64) (B : Nat → Nat → Nat → Int32) (T : Nat → Int32) (h : Nat → Int32) (n : Nat) (i : Nat) (hn60 : n ≤ 60) (hin : i ≤ n) (hc : cod T n i = 102) : CE (U := (Int32)) l yX7_readsPart wsX7_readsPart ({ frames := 3, cells := 0, slots := 0, locals := 67 }) D (tyL cI cZ cS cJ) [.ref m0] (List.flatten [mdO m0 m1 m2 m3 th sv kp (nI n) (nI i) lt fi sd hs, arC cI m1 1170 (enc B), arC cI m2 60 T, arC cI m3 8 h]) (fun u => (rdL (cod T n i) = 2 → u = prS T n i)) (fun u => some (.int (b1 (prO T n i)))) (fun u => List.flatten [mdO m0 m1 m2 m3 th sv kp (nI n) (nI (prP T n i)) (cod T n i) (prF T n i) u hs, arC cI m1 1170 (enc B), arC cI m2 60 T, arC cI m3 8 h]) 0 0 := by
  refine CE_int (cc := cX7_readsPart) (maxL := 1) (rt := .boolean) (by decide) rfl (Nat.le_of_ble_eq_true rfl) (fun _ _ => nar_b1 _) ?_
  intro p e s m below meth c A ls Q X hK hP hD hS hA hl hend
  have X : CallFix p m c cX7_readsPart 1 s ([.ref m0] : List Value).toArray wsX7_readsPart RX7 := X
  obtain ⟨hx, hb, hml, hown, hts⟩ := id X
  have hl : lv_has ls 1 [(0, .ref m0)] := hl
  have hinX7 : ∀ w ∈ u_ws RX7 TX7 12, w ∈ wsX7_readsPart := by decide +kernel
  have hr : rdL (cod T n i) = 2 := by rw [hc]; rfl
  refine lv_aload_n hx hb dX7_readsPart_0 rfl (lv_at hl 0 rfl) ?_
  refine lv_aload_n hx hb dX7_readsPart_1 rfl (lv_at hl 0 rfl) ?_
  refine kcallV (As := []) (rest := [.ref m0]) (Wn := [mdO m0 m1 m2 m3 th sv kp (nI n) (nI i) lt fi sd hs, arC cI m1 1170 (enc B), arC cI m2 60 T, arC cI m3 8 h]) X (c_X7_sign l D cI cZ cS cJ m0 m1 m2 m3 th sv kp lt fi sd hs B T h n i (by omega) (by omega)) (cwV 0 hts gX7_readsPart_X7_sign rfl rfl rfl (by decide +kernel) ⟨Nat.le_of_ble_eq_true rfl, Nat.le_of_ble_eq_true rfl⟩) hK hP hD hS hA [0, 1, 2, 3] rfl (by decide +kernel) rfl rfl rfl 0 7 rfl rfl rfl hl.1 rfl (Nat.le_of_ble_eq_true rfl) dX7_readsPart_2 ⟨Nat.le_of_ble_eq_true rfl, Nat.le_of_ble_eq_true rfl⟩ (fun H locs hP hD hS => ?_)
  refine va_put (D := D) (ci := 7) (v := .int (cod T n i)) (ty := .int) (C := RX7) (T := TX7) (N := 12) hx hb hts hinX7 tyX7 tyX7_ok nmX7 hown hK hP hD hS 0 rfl rfl 7 (by decide) (hts (.fieldLink RX7 165 "RibbonBalloonsModel" "letter" "I") (by decide +kernel)) (fun _ h9 => h9) rfl (by decide +kernel) rfl rfl (Nat.le_of_ble_eq_true rfl) dX7_readsPart_5 (fun H locs hP hD hS => ?_)
  have hP : va_P D vwCl (List.flatten [mdO m0 m1 m2 m3 th sv kp (nI n) (nI i) (cod T n i) fi sd hs, arC cI m1 1170 (enc B), arC cI m2 60 T, arC cI m3 8 h]) _ := hP
  have hD : va_D A (List.flatten [mdO m0 m1 m2 m3 th sv kp (nI n) (nI i) (cod T n i) fi sd hs, arC cI m1 1170 (enc B), arC cI m2 60 T, arC cI m3 8 h]) := hD
  refine lv_aload_n hx hb dX7_readsPart_8 rfl (lv_at hl 0 rfl) ?_
  refine lv_bipush (v := 104) hx hb dX7_readsPart_9 (by decide) ?_
  refine kcallV (As := [.int 104]) (rest := []) (Wn := [mdO m0 m1 m2 m3 th sv kp (nI n) (nI (tkp T n i 104)) (cod T n i) fi sd hs, arC cI m1 1170 (enc B), arC cI m2 60 T, arC cI m3 8 h]) X (c_X7_takes l D cI cZ cS cJ m0 m1 m2 m3 th sv kp (cod T n i) fi sd hs B T h n i 104 (by omega) (by omega)) (cwV 1 hts gX7_readsPart_X7_takes rfl rfl rfl (by decide +kernel) ⟨Nat.le_of_ble_eq_true rfl, Nat.le_of_ble_eq_true rfl⟩) hK hP hD hS hA [0, 1, 2, 3] rfl (by decide +kernel) rfl rfl rfl 0 7 rfl rfl rfl hl.1 rfl (Nat.le_of_ble_eq_true rfl) dX7_readsPart_11 ⟨Nat.le_of_ble_eq_true rfl, Nat.le_of_ble_eq_true rfl⟩ (fun H locs hP hD hS => ?_)
  refine lv_if_eq (tgt := 41) hx hb dX7_readsPart_14 (by decide) (fun _ => ?_) (fun h => absurd (b1_no (by rw [hc]; decide)) h)
  have eZ : nI (tkp T n i 104) = nI i := congrArg nI (tkp_n (by rw [hc]; decide))
  obtain ⟨hP, hD⟩ := PD_re (wn := List.flatten [mdO m0 m1 m2 m3 th sv kp (nI n) (nI i) (cod T n i) fi sd hs, arC cI m1 1170 (enc B), arC cI m2 60 T, arC cI m3 8 h]) (by rw [eZ]) hP hD
  refine lv_aload_n hx hb dX7_readsPart_41 rfl (lv_at hl 0 rfl) ?_
  refine lv_bipush (v := 99) hx hb dX7_readsPart_42 (by decide) ?_
  refine kcallV (As := [.int 99]) (rest := []) (Wn := [mdO m0 m1 m2 m3 th sv kp (nI n) (nI (tkp T n i 99)) (cod T n i) fi sd hs, arC cI m1 1170 (enc B), arC cI m2 60 T, arC cI m3 8 h]) X (c_X7_takes l D cI cZ cS cJ m0 m1 m2 m3 th sv kp (cod T n i) fi sd hs B T h n i 99 (by omega) (by omega)) (cwV 1 hts gX7_readsPart_X7_takes rfl rfl rfl (by decide +kernel) ⟨Nat.le_of_ble_eq_true rfl, Nat.le_of_ble_eq_true rfl⟩) hK hP hD hS hA [0, 1, 2, 3] rfl (by decide +kernel) rfl rfl rfl 0 7 rfl rfl rfl hl.1 rfl (Nat.le_of_ble_eq_true rfl) dX7_readsPart_44 ⟨Nat.le_of_ble_eq_true rfl, Nat.le_of_ble_eq_true rfl⟩ (fun H locs hP hD hS => ?_)
  refine lv_if_eq (tgt := 77) hx hb dX7_readsPart_47 (by decide) (fun _ => ?_) (fun h => absurd (b1_no (by rw [hc]; decide)) h)
  have eZ : nI (tkp T n i 99) = nI i := congrArg nI (tkp_n (by rw [hc]; decide))
  obtain ⟨hP, hD⟩ := PD_re (wn := List.flatten [mdO m0 m1 m2 m3 th sv kp (nI n) (nI i) (cod T n i) fi sd hs, arC cI m1 1170 (enc B), arC cI m2 60 T, arC cI m3 8 h]) (by rw [eZ]) hP hD
  refine lv_aload_n hx hb dX7_readsPart_77 rfl (lv_at hl 0 rfl) ?_
  refine lv_bipush (v := 100) hx hb dX7_readsPart_78 (by decide) ?_
  refine kcallV (As := [.int 100]) (rest := []) (Wn := [mdO m0 m1 m2 m3 th sv kp (nI n) (nI (tkp T n i 100)) (cod T n i) fi sd hs, arC cI m1 1170 (enc B), arC cI m2 60 T, arC cI m3 8 h]) X (c_X7_takes l D cI cZ cS cJ m0 m1 m2 m3 th sv kp (cod T n i) fi sd hs B T h n i 100 (by omega) (by omega)) (cwV 1 hts gX7_readsPart_X7_takes rfl rfl rfl (by decide +kernel) ⟨Nat.le_of_ble_eq_true rfl, Nat.le_of_ble_eq_true rfl⟩) hK hP hD hS hA [0, 1, 2, 3] rfl (by decide +kernel) rfl rfl rfl 0 7 rfl rfl rfl hl.1 rfl (Nat.le_of_ble_eq_true rfl) dX7_readsPart_80 ⟨Nat.le_of_ble_eq_true rfl, Nat.le_of_ble_eq_true rfl⟩ (fun H locs hP hD hS => ?_)
  refine lv_if_ne (tgt := 104) hx hb dX7_readsPart_83 (by decide) (fun h => absurd h (not_not_intro (b1_no (by rw [hc]; decide)))) (fun _ => ?_)
  have eZ : nI (tkp T n i 100) = nI i := congrArg nI (tkp_n (by rw [hc]; decide))
  obtain ⟨hP, hD⟩ := PD_re (wn := List.flatten [mdO m0 m1 m2 m3 th sv kp (nI n) (nI i) (cod T n i) fi sd hs, arC cI m1 1170 (enc B), arC cI m2 60 T, arC cI m3 8 h]) (by rw [eZ]) hP hD
  refine lv_aload_n hx hb dX7_readsPart_86 rfl (lv_at hl 0 rfl) ?_
  refine lv_bipush (v := 112) hx hb dX7_readsPart_87 (by decide) ?_
  refine kcallV (As := [.int 112]) (rest := []) (Wn := [mdO m0 m1 m2 m3 th sv kp (nI n) (nI (tkp T n i 112)) (cod T n i) fi sd hs, arC cI m1 1170 (enc B), arC cI m2 60 T, arC cI m3 8 h]) X (c_X7_takes l D cI cZ cS cJ m0 m1 m2 m3 th sv kp (cod T n i) fi sd hs B T h n i 112 (by omega) (by omega)) (cwV 1 hts gX7_readsPart_X7_takes rfl rfl rfl (by decide +kernel) ⟨Nat.le_of_ble_eq_true rfl, Nat.le_of_ble_eq_true rfl⟩) hK hP hD hS hA [0, 1, 2, 3] rfl (by decide +kernel) rfl rfl rfl 0 7 rfl rfl rfl hl.1 rfl (Nat.le_of_ble_eq_true rfl) dX7_readsPart_89 ⟨Nat.le_of_ble_eq_true rfl, Nat.le_of_ble_eq_true rfl⟩ (fun H locs hP hD hS => ?_)
  refine lv_if_ne (tgt := 104) hx hb dX7_readsPart_92 (by decide) (fun h => absurd h (not_not_intro (b1_no (by rw [hc]; decide)))) (fun _ => ?_)
  have eZ : nI (tkp T n i 112) = nI i := congrArg nI (tkp_n (by rw [hc]; decide))
  obtain ⟨hP, hD⟩ := PD_re (wn := List.flatten [mdO m0 m1 m2 m3 th sv kp (nI n) (nI i) (cod T n i) fi sd hs, arC cI m1 1170 (enc B), arC cI m2 60 T, arC cI m3 8 h]) (by rw [eZ]) hP hD
  refine lv_aload_n hx hb dX7_readsPart_95 rfl (lv_at hl 0 rfl) ?_
  refine lv_bipush (v := 110) hx hb dX7_readsPart_96 (by decide) ?_
  refine kcallV (As := [.int 110]) (rest := []) (Wn := [mdO m0 m1 m2 m3 th sv kp (nI n) (nI (tkp T n i 110)) (cod T n i) fi sd hs, arC cI m1 1170 (enc B), arC cI m2 60 T, arC cI m3 8 h]) X (c_X7_takes l D cI cZ cS cJ m0 m1 m2 m3 th sv kp (cod T n i) fi sd hs B T h n i 110 (by omega) (by omega)) (cwV 1 hts gX7_readsPart_X7_takes rfl rfl rfl (by decide +kernel) ⟨Nat.le_of_ble_eq_true rfl, Nat.le_of_ble_eq_true rfl⟩) hK hP hD hS hA [0, 1, 2, 3] rfl (by decide +kernel) rfl rfl rfl 0 7 rfl rfl rfl hl.1 rfl (Nat.le_of_ble_eq_true rfl) dX7_readsPart_98 ⟨Nat.le_of_ble_eq_true rfl, Nat.le_of_ble_eq_true rfl⟩ (fun H locs hP hD hS => ?_)
  refine lv_if_eq (tgt := 131) hx hb dX7_readsPart_101 (by decide) (fun _ => ?_) (fun h => absurd (b1_no (by rw [hc]; decide)) h)
  have eZ : nI (tkp T n i 110) = nI i := congrArg nI (tkp_n (by rw [hc]; decide))
  obtain ⟨hP, hD⟩ := PD_re (wn := List.flatten [mdO m0 m1 m2 m3 th sv kp (nI n) (nI i) (cod T n i) fi sd hs, arC cI m1 1170 (enc B), arC cI m2 60 T, arC cI m3 8 h]) (by rw [eZ]) hP hD
  refine lv_aload_n hx hb dX7_readsPart_131 rfl (lv_at hl 0 rfl) ?_
  refine lv_aload_n hx hb dX7_readsPart_132 rfl (lv_at hl 0 rfl) ?_
  refine lv_bipush (v := 102) hx hb dX7_readsPart_133 (by decide) ?_
  refine kcallV (As := [.int 102]) (rest := [.ref m0]) (Wn := [mdO m0 m1 m2 m3 th sv kp (nI n) (nI (tkp T n i 102)) (cod T n i) fi sd hs, arC cI m1 1170 (enc B), arC cI m2 60 T, arC cI m3 8 h]) X (c_X7_takes l D cI cZ cS cJ m0 m1 m2 m3 th sv kp (cod T n i) fi sd hs B T h n i 102 (by omega) (by omega)) (cwV 1 hts gX7_readsPart_X7_takes rfl rfl rfl (by decide +kernel) ⟨Nat.le_of_ble_eq_true rfl, Nat.le_of_ble_eq_true rfl⟩) hK hP hD hS hA [0, 1, 2, 3] rfl (by decide +kernel) rfl rfl rfl 0 7 rfl rfl rfl hl.1 rfl (Nat.le_of_ble_eq_true rfl) dX7_readsPart_135 ⟨Nat.le_of_ble_eq_true rfl, Nat.le_of_ble_eq_true rfl⟩ (fun H locs hP hD hS => ?_)
  refine lv_if_ne (tgt := 150) hx hb dX7_readsPart_138 (by decide) (fun _ => ?_) (fun h => absurd h (b1_of hc))
  have eZ : nI (tkp T n i 102) = nI (i + 1) := congrArg nI (tkp_y hc)
  obtain ⟨hP, hD⟩ := PD_re (wn := List.flatten [mdO m0 m1 m2 m3 th sv kp (nI n) (nI (i + 1)) (cod T n i) fi sd hs, arC cI m1 1170 (enc B), arC cI m2 60 T, arC cI m3 8 h]) (by rw [eZ]) hP hD
  have hi1 : i + 1 ≤ n := cod_lt hc (by decide)
  refine lv_aload_n hx hb dX7_readsPart_150 rfl (lv_at hl 0 rfl) ?_
  refine lv_iconst (v := 0) hx hb dX7_readsPart_151 (by decide) ?_
  refine lv_bipush (v := 7) hx hb dX7_readsPart_152 (by decide) ?_
  refine kcallV (As := [.int 0, .int 7]) (rest := [.ref m0]) (Wn := [mdO m0 m1 m2 m3 th sv kp (nI n) (nI (fgp T n 0 7 (i + 1))) (cod T n i) fi sd hs, arC cI m1 1170 (enc B), arC cI m2 60 T, arC cI m3 8 h]) X (c_X7_figure l D cI cZ cS cJ m0 m1 m2 m3 th sv kp (cod T n i) fi sd hs B T h n (i + 1) 0 7 (by omega) (by omega) dg7) (cwV 2 hts gX7_readsPart_X7_figure rfl rfl rfl (by decide +kernel) ⟨Nat.le_of_ble_eq_true rfl, Nat.le_of_ble_eq_true rfl⟩) hK hP hD hS hA [0, 1, 2, 3] rfl (by decide +kernel) rfl rfl rfl 0 7 rfl rfl rfl hl.1 rfl (Nat.le_of_ble_eq_true rfl) dX7_readsPart_154 ⟨Nat.le_of_ble_eq_true rfl, Nat.le_of_ble_eq_true rfl⟩ (fun H locs hP hD hS => ?_)
  refine lv_goto (tgt := 163) hx hb dX7_readsPart_157 (by decide) ?_
  refine va_put (D := D) (ci := 7) (v := .int (fgv T n 0 7 (i + 1))) (ty := .int) (C := RX7) (T := TX7) (N := 12) hx hb hts hinX7 tyX7 tyX7_ok nmX7 hown hK hP hD hS 0 rfl rfl 8 (by decide) (hts (.fieldLink RX7 174 "RibbonBalloonsModel" "first" "I") (by decide +kernel)) (fun _ h9 => h9) rfl (by decide +kernel) rfl rfl (Nat.le_of_ble_eq_true rfl) dX7_readsPart_163 (fun H locs hP hD hS => ?_)
  have hP : va_P D vwCl (List.flatten [mdO m0 m1 m2 m3 th sv kp (nI n) (nI (fgp T n 0 7 (i + 1))) (cod T n i) (fgv T n 0 7 (i + 1)) sd hs, arC cI m1 1170 (enc B), arC cI m2 60 T, arC cI m3 8 h]) _ := hP
  have hD : va_D A (List.flatten [mdO m0 m1 m2 m3 th sv kp (nI n) (nI (fgp T n 0 7 (i + 1))) (cod T n i) (fgv T n 0 7 (i + 1)) sd hs, arC cI m1 1170 (enc B), arC cI m2 60 T, arC cI m3 8 h]) := hD
  refine lv_aload_n hx hb dX7_readsPart_166 rfl (lv_at hl 0 rfl) ?_
  refine lv_aload_n hx hb dX7_readsPart_167 rfl (lv_at hl 0 rfl) ?_
  refine va_get (D := D) (ci := 7) (v := .int (fgv T n 0 7 (i + 1))) (C := RX7) (T := TX7) (N := 12) hx hb hts hinX7 hown hK hP 0 rfl rfl 8 (by decide) (hts (.fieldLink RX7 174 "RibbonBalloonsModel" "first" "I") (by decide +kernel)) (fun _ h9 => h9) rfl dX7_readsPart_168 ?_
  refine lv_sipush (v := (-1000)) hx hb dX7_readsPart_171 (by decide) ?_
  refine lv_icmp_ne (tgt := 183) hx hb dX7_readsPart_174 (by decide) (fun c174 => ?_) (fun c174 => ?_)
  · skip
    refine lv_aload_n hx hb dX7_readsPart_183 rfl (lv_at hl 0 rfl) ?_
    refine kcallV (As := []) (rest := [.ref m0]) (Wn := [mdO m0 m1 m2 m3 th sv kp (nI n) (nI (amp T n (fgp T n 0 7 (i + 1)))) (cod T n i) (fgv T n 0 7 (i + 1)) sd hs, arC cI m1 1170 (enc B), arC cI m2 60 T, arC cI m3 8 h]) X (c_X7_readsAmount l D cI cZ cS cJ m0 m1 m2 m3 th sv kp (cod T n i) (fgv T n 0 7 (i + 1)) sd hs B T h n (fgp T n 0 7 (i + 1)) (by omega) (fgp_le dg7 hi1)) (cwV 0 hts gX7_readsPart_X7_readsAmount rfl rfl rfl (by decide +kernel) ⟨Nat.le_of_ble_eq_true rfl, Nat.le_of_ble_eq_true rfl⟩) hK hP hD hS hA [0, 1, 2, 3] rfl (by decide +kernel) rfl rfl rfl 0 7 rfl rfl rfl hl.1 rfl (Nat.le_of_ble_eq_true rfl) dX7_readsPart_184 ⟨Nat.le_of_ble_eq_true rfl, Nat.le_of_ble_eq_true rfl⟩ (fun H locs hP hD hS => ?_)
    refine va_put (D := D) (ci := 7) (v := .int (amv T n (fgp T n 0 7 (i + 1)))) (ty := .int) (C := RX7) (T := TX7) (N := 12) hx hb hts hinX7 tyX7 tyX7_ok nmX7 hown hK hP hD hS 0 rfl rfl 9 (by decide) (hts (.fieldLink RX7 177 "RibbonBalloonsModel" "second" "I") (by decide +kernel)) (fun _ h9 => h9) rfl (by decide +kernel) rfl rfl (Nat.le_of_ble_eq_true rfl) dX7_readsPart_187 (fun H locs hP hD hS => ?_)
    have hP : va_P D vwCl (List.flatten [mdO m0 m1 m2 m3 th sv kp (nI n) (nI (amp T n (fgp T n 0 7 (i + 1)))) (cod T n i) (fgv T n 0 7 (i + 1)) (amv T n (fgp T n 0 7 (i + 1))) hs, arC cI m1 1170 (enc B), arC cI m2 60 T, arC cI m3 8 h]) _ := hP
    have hD : va_D A (List.flatten [mdO m0 m1 m2 m3 th sv kp (nI n) (nI (amp T n (fgp T n 0 7 (i + 1)))) (cod T n i) (fgv T n 0 7 (i + 1)) (amv T n (fgp T n 0 7 (i + 1))) hs, arC cI m1 1170 (enc B), arC cI m2 60 T, arC cI m3 8 h]) := hD
    refine lv_aload_n hx hb dX7_readsPart_190 rfl (lv_at hl 0 rfl) ?_
    refine va_get (D := D) (ci := 7) (v := .int (amv T n (fgp T n 0 7 (i + 1)))) (C := RX7) (T := TX7) (N := 12) hx hb hts hinX7 hown hK hP 0 rfl rfl 9 (by decide) (hts (.fieldLink RX7 177 "RibbonBalloonsModel" "second" "I") (by decide +kernel)) (fun _ h9 => h9) rfl dX7_readsPart_191 ?_
    refine lv_sipush (v := (-1000)) hx hb dX7_readsPart_194 (by decide) ?_
    refine lv_icmp_eq (tgt := 204) hx hb dX7_readsPart_197 (by decide) (fun c197 => ?_) (fun c197 => ?_)
    · skip
      refine lv_iconst (v := 0) hx hb dX7_readsPart_204 (by decide) ?_
      have eZ : nI (amp T n (fgp T n 0 7 (i + 1))) = nI (prP T n i) := by first | exact pp2a hr c174 | exact pp2b hr c174
      obtain ⟨hP, hD⟩ := PD_re (wn := List.flatten [mdO m0 m1 m2 m3 th sv kp (nI n) (nI (prP T n i)) (cod T n i) (fgv T n 0 7 (i + 1)) (amv T n (fgp T n 0 7 (i + 1))) hs, arC cI m1 1170 (enc B), arC cI m2 60 T, arC cI m3 8 h]) (by rw [eZ]) hP hD
      have eZ : fgv T n 0 7 (i + 1) = prF T n i := pf2 hr
      obtain ⟨hP, hD⟩ := PD_re (wn := List.flatten [mdO m0 m1 m2 m3 th sv kp (nI n) (nI (prP T n i)) (cod T n i) (prF T n i) (amv T n (fgp T n 0 7 (i + 1))) hs, arC cI m1 1170 (enc B), arC cI m2 60 T, arC cI m3 8 h]) (by rw [eZ]) hP hD
      refine hend (amv T n (fgp T n 0 7 (i + 1))) _ _ _ _ _ (by first | exact fun _ => ps2a hr c174 | exact fun _ => ps2b hr c174) ?_ hP hD hS dX7_readsPart_205
      first | exact pro_n (fun q => q ((po2a hr c174).trans c197)) | exact pro_y (fun q => c197 ((po2a hr c174).symm.trans q)) | exact pro_n (fun q => q (po2b hr c174))
    · skip
      refine lv_iconst (v := 1) hx hb dX7_readsPart_200 (by decide) ?_
      refine lv_goto (tgt := 205) hx hb dX7_readsPart_201 (by decide) ?_
      have eZ : nI (amp T n (fgp T n 0 7 (i + 1))) = nI (prP T n i) := by first | exact pp2a hr c174 | exact pp2b hr c174
      obtain ⟨hP, hD⟩ := PD_re (wn := List.flatten [mdO m0 m1 m2 m3 th sv kp (nI n) (nI (prP T n i)) (cod T n i) (fgv T n 0 7 (i + 1)) (amv T n (fgp T n 0 7 (i + 1))) hs, arC cI m1 1170 (enc B), arC cI m2 60 T, arC cI m3 8 h]) (by rw [eZ]) hP hD
      have eZ : fgv T n 0 7 (i + 1) = prF T n i := pf2 hr
      obtain ⟨hP, hD⟩ := PD_re (wn := List.flatten [mdO m0 m1 m2 m3 th sv kp (nI n) (nI (prP T n i)) (cod T n i) (prF T n i) (amv T n (fgp T n 0 7 (i + 1))) hs, arC cI m1 1170 (enc B), arC cI m2 60 T, arC cI m3 8 h]) (by rw [eZ]) hP hD
      refine hend (amv T n (fgp T n 0 7 (i + 1))) _ _ _ _ _ (by first | exact fun _ => ps2a hr c174 | exact fun _ => ps2b hr c174) ?_ hP hD hS dX7_readsPart_205
      first | exact pro_n (fun q => q ((po2a hr c174).trans c197)) | exact pro_y (fun q => c197 ((po2a hr c174).symm.trans q)) | exact pro_n (fun q => q (po2b hr c174))
  · skip
    refine lv_sipush (v := (-1000)) hx hb dX7_readsPart_177 (by decide) ?_
    refine lv_goto (tgt := 187) hx hb dX7_readsPart_180 (by decide) ?_
    refine va_put (D := D) (ci := 7) (v := .int (-1000)) (ty := .int) (C := RX7) (T := TX7) (N := 12) hx hb hts hinX7 tyX7 tyX7_ok nmX7 hown hK hP hD hS 0 rfl rfl 9 (by decide) (hts (.fieldLink RX7 177 "RibbonBalloonsModel" "second" "I") (by decide +kernel)) (fun _ h9 => h9) rfl (by decide +kernel) rfl rfl (Nat.le_of_ble_eq_true rfl) dX7_readsPart_187 (fun H locs hP hD hS => ?_)
    have hP : va_P D vwCl (List.flatten [mdO m0 m1 m2 m3 th sv kp (nI n) (nI (fgp T n 0 7 (i + 1))) (cod T n i) (fgv T n 0 7 (i + 1)) (-1000) hs, arC cI m1 1170 (enc B), arC cI m2 60 T, arC cI m3 8 h]) _ := hP
    have hD : va_D A (List.flatten [mdO m0 m1 m2 m3 th sv kp (nI n) (nI (fgp T n 0 7 (i + 1))) (cod T n i) (fgv T n 0 7 (i + 1)) (-1000) hs, arC cI m1 1170 (enc B), arC cI m2 60 T, arC cI m3 8 h]) := hD
    refine lv_aload_n hx hb dX7_readsPart_190 rfl (lv_at hl 0 rfl) ?_
    refine va_get (D := D) (ci := 7) (v := .int (-1000)) (C := RX7) (T := TX7) (N := 12) hx hb hts hinX7 hown hK hP 0 rfl rfl 9 (by decide) (hts (.fieldLink RX7 177 "RibbonBalloonsModel" "second" "I") (by decide +kernel)) (fun _ h9 => h9) rfl dX7_readsPart_191 ?_
    refine lv_sipush (v := (-1000)) hx hb dX7_readsPart_194 (by decide) ?_
    refine lv_icmp_eq (tgt := 204) hx hb dX7_readsPart_197 (by decide) (fun _ => ?_) (fun h => absurd rfl h)
    refine lv_iconst (v := 0) hx hb dX7_readsPart_204 (by decide) ?_
    have eZ : nI (fgp T n 0 7 (i + 1)) = nI (prP T n i) := by first | exact pp2a hr c174 | exact pp2b hr c174
    obtain ⟨hP, hD⟩ := PD_re (wn := List.flatten [mdO m0 m1 m2 m3 th sv kp (nI n) (nI (prP T n i)) (cod T n i) (fgv T n 0 7 (i + 1)) (-1000) hs, arC cI m1 1170 (enc B), arC cI m2 60 T, arC cI m3 8 h]) (by rw [eZ]) hP hD
    have eZ : fgv T n 0 7 (i + 1) = prF T n i := pf2 hr
    obtain ⟨hP, hD⟩ := PD_re (wn := List.flatten [mdO m0 m1 m2 m3 th sv kp (nI n) (nI (prP T n i)) (cod T n i) (prF T n i) (-1000) hs, arC cI m1 1170 (enc B), arC cI m2 60 T, arC cI m3 8 h]) (by rw [eZ]) hP hD
    refine hend ((-1000)) _ _ _ _ _ (by first | exact fun _ => ps2a hr c174 | exact fun _ => ps2b hr c174) ?_ hP hD hS dX7_readsPart_205
    first | exact pro_n (fun q => q ((po2a hr c174).trans c197)) | exact pro_y (fun q => c197 ((po2a hr c174).symm.trans q)) | exact pro_n (fun q => q (po2b hr c174))

set_option maxHeartbeats 4000000 in
set_option maxRecDepth 100000 in
theorem c_X7_readsPart118 (l : Launch) (D : va_G) (cI cZ cS cJ : ClassId) (m0 : Nat) (m1 : Nat) (m2 : Nat) (m3 : Nat) (th : Int32) (sv : Int32) (kp : Int32) (lt : Int32) (fi : Int32) (sd : Int32) (hs : Int64) (B : Nat → Nat → Nat → Int32) (T : Nat → Int32) (h : Nat → Int32) (n : Nat) (i : Nat) (hn60 : n ≤ 60) (hin : i ≤ n) (hc : cod T n i = 118) : CE (U := (Int32)) l yX7_readsPart wsX7_readsPart ({ frames := 3, cells := 0, slots := 0, locals := 67 }) D (tyL cI cZ cS cJ) [.ref m0] (List.flatten [mdO m0 m1 m2 m3 th sv kp (nI n) (nI i) lt fi sd hs, arC cI m1 1170 (enc B), arC cI m2 60 T, arC cI m3 8 h]) (fun u => (rdL (cod T n i) = 2 → u = prS T n i)) (fun u => some (.int (b1 (prO T n i)))) (fun u => List.flatten [mdO m0 m1 m2 m3 th sv kp (nI n) (nI (prP T n i)) (cod T n i) (prF T n i) u hs, arC cI m1 1170 (enc B), arC cI m2 60 T, arC cI m3 8 h]) 0 0 := by
  refine CE_int (cc := cX7_readsPart) (maxL := 1) (rt := .boolean) (by decide) rfl (Nat.le_of_ble_eq_true rfl) (fun _ _ => nar_b1 _) ?_
  intro p e s m below meth c A ls Q X hK hP hD hS hA hl hend
  have X : CallFix p m c cX7_readsPart 1 s ([.ref m0] : List Value).toArray wsX7_readsPart RX7 := X
  obtain ⟨hx, hb, hml, hown, hts⟩ := id X
  have hl : lv_has ls 1 [(0, .ref m0)] := hl
  have hinX7 : ∀ w ∈ u_ws RX7 TX7 12, w ∈ wsX7_readsPart := by decide +kernel
  have hr : rdL (cod T n i) = 2 := by rw [hc]; rfl
  refine lv_aload_n hx hb dX7_readsPart_0 rfl (lv_at hl 0 rfl) ?_
  refine lv_aload_n hx hb dX7_readsPart_1 rfl (lv_at hl 0 rfl) ?_
  refine kcallV (As := []) (rest := [.ref m0]) (Wn := [mdO m0 m1 m2 m3 th sv kp (nI n) (nI i) lt fi sd hs, arC cI m1 1170 (enc B), arC cI m2 60 T, arC cI m3 8 h]) X (c_X7_sign l D cI cZ cS cJ m0 m1 m2 m3 th sv kp lt fi sd hs B T h n i (by omega) (by omega)) (cwV 0 hts gX7_readsPart_X7_sign rfl rfl rfl (by decide +kernel) ⟨Nat.le_of_ble_eq_true rfl, Nat.le_of_ble_eq_true rfl⟩) hK hP hD hS hA [0, 1, 2, 3] rfl (by decide +kernel) rfl rfl rfl 0 7 rfl rfl rfl hl.1 rfl (Nat.le_of_ble_eq_true rfl) dX7_readsPart_2 ⟨Nat.le_of_ble_eq_true rfl, Nat.le_of_ble_eq_true rfl⟩ (fun H locs hP hD hS => ?_)
  refine va_put (D := D) (ci := 7) (v := .int (cod T n i)) (ty := .int) (C := RX7) (T := TX7) (N := 12) hx hb hts hinX7 tyX7 tyX7_ok nmX7 hown hK hP hD hS 0 rfl rfl 7 (by decide) (hts (.fieldLink RX7 165 "RibbonBalloonsModel" "letter" "I") (by decide +kernel)) (fun _ h9 => h9) rfl (by decide +kernel) rfl rfl (Nat.le_of_ble_eq_true rfl) dX7_readsPart_5 (fun H locs hP hD hS => ?_)
  have hP : va_P D vwCl (List.flatten [mdO m0 m1 m2 m3 th sv kp (nI n) (nI i) (cod T n i) fi sd hs, arC cI m1 1170 (enc B), arC cI m2 60 T, arC cI m3 8 h]) _ := hP
  have hD : va_D A (List.flatten [mdO m0 m1 m2 m3 th sv kp (nI n) (nI i) (cod T n i) fi sd hs, arC cI m1 1170 (enc B), arC cI m2 60 T, arC cI m3 8 h]) := hD
  refine lv_aload_n hx hb dX7_readsPart_8 rfl (lv_at hl 0 rfl) ?_
  refine lv_bipush (v := 104) hx hb dX7_readsPart_9 (by decide) ?_
  refine kcallV (As := [.int 104]) (rest := []) (Wn := [mdO m0 m1 m2 m3 th sv kp (nI n) (nI (tkp T n i 104)) (cod T n i) fi sd hs, arC cI m1 1170 (enc B), arC cI m2 60 T, arC cI m3 8 h]) X (c_X7_takes l D cI cZ cS cJ m0 m1 m2 m3 th sv kp (cod T n i) fi sd hs B T h n i 104 (by omega) (by omega)) (cwV 1 hts gX7_readsPart_X7_takes rfl rfl rfl (by decide +kernel) ⟨Nat.le_of_ble_eq_true rfl, Nat.le_of_ble_eq_true rfl⟩) hK hP hD hS hA [0, 1, 2, 3] rfl (by decide +kernel) rfl rfl rfl 0 7 rfl rfl rfl hl.1 rfl (Nat.le_of_ble_eq_true rfl) dX7_readsPart_11 ⟨Nat.le_of_ble_eq_true rfl, Nat.le_of_ble_eq_true rfl⟩ (fun H locs hP hD hS => ?_)
  refine lv_if_eq (tgt := 41) hx hb dX7_readsPart_14 (by decide) (fun _ => ?_) (fun h => absurd (b1_no (by rw [hc]; decide)) h)
  have eZ : nI (tkp T n i 104) = nI i := congrArg nI (tkp_n (by rw [hc]; decide))
  obtain ⟨hP, hD⟩ := PD_re (wn := List.flatten [mdO m0 m1 m2 m3 th sv kp (nI n) (nI i) (cod T n i) fi sd hs, arC cI m1 1170 (enc B), arC cI m2 60 T, arC cI m3 8 h]) (by rw [eZ]) hP hD
  refine lv_aload_n hx hb dX7_readsPart_41 rfl (lv_at hl 0 rfl) ?_
  refine lv_bipush (v := 99) hx hb dX7_readsPart_42 (by decide) ?_
  refine kcallV (As := [.int 99]) (rest := []) (Wn := [mdO m0 m1 m2 m3 th sv kp (nI n) (nI (tkp T n i 99)) (cod T n i) fi sd hs, arC cI m1 1170 (enc B), arC cI m2 60 T, arC cI m3 8 h]) X (c_X7_takes l D cI cZ cS cJ m0 m1 m2 m3 th sv kp (cod T n i) fi sd hs B T h n i 99 (by omega) (by omega)) (cwV 1 hts gX7_readsPart_X7_takes rfl rfl rfl (by decide +kernel) ⟨Nat.le_of_ble_eq_true rfl, Nat.le_of_ble_eq_true rfl⟩) hK hP hD hS hA [0, 1, 2, 3] rfl (by decide +kernel) rfl rfl rfl 0 7 rfl rfl rfl hl.1 rfl (Nat.le_of_ble_eq_true rfl) dX7_readsPart_44 ⟨Nat.le_of_ble_eq_true rfl, Nat.le_of_ble_eq_true rfl⟩ (fun H locs hP hD hS => ?_)
  refine lv_if_eq (tgt := 77) hx hb dX7_readsPart_47 (by decide) (fun _ => ?_) (fun h => absurd (b1_no (by rw [hc]; decide)) h)
  have eZ : nI (tkp T n i 99) = nI i := congrArg nI (tkp_n (by rw [hc]; decide))
  obtain ⟨hP, hD⟩ := PD_re (wn := List.flatten [mdO m0 m1 m2 m3 th sv kp (nI n) (nI i) (cod T n i) fi sd hs, arC cI m1 1170 (enc B), arC cI m2 60 T, arC cI m3 8 h]) (by rw [eZ]) hP hD
  refine lv_aload_n hx hb dX7_readsPart_77 rfl (lv_at hl 0 rfl) ?_
  refine lv_bipush (v := 100) hx hb dX7_readsPart_78 (by decide) ?_
  refine kcallV (As := [.int 100]) (rest := []) (Wn := [mdO m0 m1 m2 m3 th sv kp (nI n) (nI (tkp T n i 100)) (cod T n i) fi sd hs, arC cI m1 1170 (enc B), arC cI m2 60 T, arC cI m3 8 h]) X (c_X7_takes l D cI cZ cS cJ m0 m1 m2 m3 th sv kp (cod T n i) fi sd hs B T h n i 100 (by omega) (by omega)) (cwV 1 hts gX7_readsPart_X7_takes rfl rfl rfl (by decide +kernel) ⟨Nat.le_of_ble_eq_true rfl, Nat.le_of_ble_eq_true rfl⟩) hK hP hD hS hA [0, 1, 2, 3] rfl (by decide +kernel) rfl rfl rfl 0 7 rfl rfl rfl hl.1 rfl (Nat.le_of_ble_eq_true rfl) dX7_readsPart_80 ⟨Nat.le_of_ble_eq_true rfl, Nat.le_of_ble_eq_true rfl⟩ (fun H locs hP hD hS => ?_)
  refine lv_if_ne (tgt := 104) hx hb dX7_readsPart_83 (by decide) (fun h => absurd h (not_not_intro (b1_no (by rw [hc]; decide)))) (fun _ => ?_)
  have eZ : nI (tkp T n i 100) = nI i := congrArg nI (tkp_n (by rw [hc]; decide))
  obtain ⟨hP, hD⟩ := PD_re (wn := List.flatten [mdO m0 m1 m2 m3 th sv kp (nI n) (nI i) (cod T n i) fi sd hs, arC cI m1 1170 (enc B), arC cI m2 60 T, arC cI m3 8 h]) (by rw [eZ]) hP hD
  refine lv_aload_n hx hb dX7_readsPart_86 rfl (lv_at hl 0 rfl) ?_
  refine lv_bipush (v := 112) hx hb dX7_readsPart_87 (by decide) ?_
  refine kcallV (As := [.int 112]) (rest := []) (Wn := [mdO m0 m1 m2 m3 th sv kp (nI n) (nI (tkp T n i 112)) (cod T n i) fi sd hs, arC cI m1 1170 (enc B), arC cI m2 60 T, arC cI m3 8 h]) X (c_X7_takes l D cI cZ cS cJ m0 m1 m2 m3 th sv kp (cod T n i) fi sd hs B T h n i 112 (by omega) (by omega)) (cwV 1 hts gX7_readsPart_X7_takes rfl rfl rfl (by decide +kernel) ⟨Nat.le_of_ble_eq_true rfl, Nat.le_of_ble_eq_true rfl⟩) hK hP hD hS hA [0, 1, 2, 3] rfl (by decide +kernel) rfl rfl rfl 0 7 rfl rfl rfl hl.1 rfl (Nat.le_of_ble_eq_true rfl) dX7_readsPart_89 ⟨Nat.le_of_ble_eq_true rfl, Nat.le_of_ble_eq_true rfl⟩ (fun H locs hP hD hS => ?_)
  refine lv_if_ne (tgt := 104) hx hb dX7_readsPart_92 (by decide) (fun h => absurd h (not_not_intro (b1_no (by rw [hc]; decide)))) (fun _ => ?_)
  have eZ : nI (tkp T n i 112) = nI i := congrArg nI (tkp_n (by rw [hc]; decide))
  obtain ⟨hP, hD⟩ := PD_re (wn := List.flatten [mdO m0 m1 m2 m3 th sv kp (nI n) (nI i) (cod T n i) fi sd hs, arC cI m1 1170 (enc B), arC cI m2 60 T, arC cI m3 8 h]) (by rw [eZ]) hP hD
  refine lv_aload_n hx hb dX7_readsPart_95 rfl (lv_at hl 0 rfl) ?_
  refine lv_bipush (v := 110) hx hb dX7_readsPart_96 (by decide) ?_
  refine kcallV (As := [.int 110]) (rest := []) (Wn := [mdO m0 m1 m2 m3 th sv kp (nI n) (nI (tkp T n i 110)) (cod T n i) fi sd hs, arC cI m1 1170 (enc B), arC cI m2 60 T, arC cI m3 8 h]) X (c_X7_takes l D cI cZ cS cJ m0 m1 m2 m3 th sv kp (cod T n i) fi sd hs B T h n i 110 (by omega) (by omega)) (cwV 1 hts gX7_readsPart_X7_takes rfl rfl rfl (by decide +kernel) ⟨Nat.le_of_ble_eq_true rfl, Nat.le_of_ble_eq_true rfl⟩) hK hP hD hS hA [0, 1, 2, 3] rfl (by decide +kernel) rfl rfl rfl 0 7 rfl rfl rfl hl.1 rfl (Nat.le_of_ble_eq_true rfl) dX7_readsPart_98 ⟨Nat.le_of_ble_eq_true rfl, Nat.le_of_ble_eq_true rfl⟩ (fun H locs hP hD hS => ?_)
  refine lv_if_eq (tgt := 131) hx hb dX7_readsPart_101 (by decide) (fun _ => ?_) (fun h => absurd (b1_no (by rw [hc]; decide)) h)
  have eZ : nI (tkp T n i 110) = nI i := congrArg nI (tkp_n (by rw [hc]; decide))
  obtain ⟨hP, hD⟩ := PD_re (wn := List.flatten [mdO m0 m1 m2 m3 th sv kp (nI n) (nI i) (cod T n i) fi sd hs, arC cI m1 1170 (enc B), arC cI m2 60 T, arC cI m3 8 h]) (by rw [eZ]) hP hD
  refine lv_aload_n hx hb dX7_readsPart_131 rfl (lv_at hl 0 rfl) ?_
  refine lv_aload_n hx hb dX7_readsPart_132 rfl (lv_at hl 0 rfl) ?_
  refine lv_bipush (v := 102) hx hb dX7_readsPart_133 (by decide) ?_
  refine kcallV (As := [.int 102]) (rest := [.ref m0]) (Wn := [mdO m0 m1 m2 m3 th sv kp (nI n) (nI (tkp T n i 102)) (cod T n i) fi sd hs, arC cI m1 1170 (enc B), arC cI m2 60 T, arC cI m3 8 h]) X (c_X7_takes l D cI cZ cS cJ m0 m1 m2 m3 th sv kp (cod T n i) fi sd hs B T h n i 102 (by omega) (by omega)) (cwV 1 hts gX7_readsPart_X7_takes rfl rfl rfl (by decide +kernel) ⟨Nat.le_of_ble_eq_true rfl, Nat.le_of_ble_eq_true rfl⟩) hK hP hD hS hA [0, 1, 2, 3] rfl (by decide +kernel) rfl rfl rfl 0 7 rfl rfl rfl hl.1 rfl (Nat.le_of_ble_eq_true rfl) dX7_readsPart_135 ⟨Nat.le_of_ble_eq_true rfl, Nat.le_of_ble_eq_true rfl⟩ (fun H locs hP hD hS => ?_)
  refine lv_if_ne (tgt := 150) hx hb dX7_readsPart_138 (by decide) (fun h => absurd h (not_not_intro (b1_no (by rw [hc]; decide)))) (fun _ => ?_)
  have eZ : nI (tkp T n i 102) = nI i := congrArg nI (tkp_n (by rw [hc]; decide))
  obtain ⟨hP, hD⟩ := PD_re (wn := List.flatten [mdO m0 m1 m2 m3 th sv kp (nI n) (nI i) (cod T n i) fi sd hs, arC cI m1 1170 (enc B), arC cI m2 60 T, arC cI m3 8 h]) (by rw [eZ]) hP hD
  refine lv_aload_n hx hb dX7_readsPart_141 rfl (lv_at hl 0 rfl) ?_
  refine lv_bipush (v := 118) hx hb dX7_readsPart_142 (by decide) ?_
  refine kcallV (As := [.int 118]) (rest := [.ref m0]) (Wn := [mdO m0 m1 m2 m3 th sv kp (nI n) (nI (tkp T n i 118)) (cod T n i) fi sd hs, arC cI m1 1170 (enc B), arC cI m2 60 T, arC cI m3 8 h]) X (c_X7_takes l D cI cZ cS cJ m0 m1 m2 m3 th sv kp (cod T n i) fi sd hs B T h n i 118 (by omega) (by omega)) (cwV 1 hts gX7_readsPart_X7_takes rfl rfl rfl (by decide +kernel) ⟨Nat.le_of_ble_eq_true rfl, Nat.le_of_ble_eq_true rfl⟩) hK hP hD hS hA [0, 1, 2, 3] rfl (by decide +kernel) rfl rfl rfl 0 7 rfl rfl rfl hl.1 rfl (Nat.le_of_ble_eq_true rfl) dX7_readsPart_144 ⟨Nat.le_of_ble_eq_true rfl, Nat.le_of_ble_eq_true rfl⟩ (fun H locs hP hD hS => ?_)
  refine lv_if_eq (tgt := 160) hx hb dX7_readsPart_147 (by decide) (fun h => absurd h (b1_of hc)) (fun _ => ?_)
  have eZ : nI (tkp T n i 118) = nI (i + 1) := congrArg nI (tkp_y hc)
  obtain ⟨hP, hD⟩ := PD_re (wn := List.flatten [mdO m0 m1 m2 m3 th sv kp (nI n) (nI (i + 1)) (cod T n i) fi sd hs, arC cI m1 1170 (enc B), arC cI m2 60 T, arC cI m3 8 h]) (by rw [eZ]) hP hD
  have hi1 : i + 1 ≤ n := cod_lt hc (by decide)
  refine lv_aload_n hx hb dX7_readsPart_150 rfl (lv_at hl 0 rfl) ?_
  refine lv_iconst (v := 0) hx hb dX7_readsPart_151 (by decide) ?_
  refine lv_bipush (v := 7) hx hb dX7_readsPart_152 (by decide) ?_
  refine kcallV (As := [.int 0, .int 7]) (rest := [.ref m0]) (Wn := [mdO m0 m1 m2 m3 th sv kp (nI n) (nI (fgp T n 0 7 (i + 1))) (cod T n i) fi sd hs, arC cI m1 1170 (enc B), arC cI m2 60 T, arC cI m3 8 h]) X (c_X7_figure l D cI cZ cS cJ m0 m1 m2 m3 th sv kp (cod T n i) fi sd hs B T h n (i + 1) 0 7 (by omega) (by omega) dg7) (cwV 2 hts gX7_readsPart_X7_figure rfl rfl rfl (by decide +kernel) ⟨Nat.le_of_ble_eq_true rfl, Nat.le_of_ble_eq_true rfl⟩) hK hP hD hS hA [0, 1, 2, 3] rfl (by decide +kernel) rfl rfl rfl 0 7 rfl rfl rfl hl.1 rfl (Nat.le_of_ble_eq_true rfl) dX7_readsPart_154 ⟨Nat.le_of_ble_eq_true rfl, Nat.le_of_ble_eq_true rfl⟩ (fun H locs hP hD hS => ?_)
  refine lv_goto (tgt := 163) hx hb dX7_readsPart_157 (by decide) ?_
  refine va_put (D := D) (ci := 7) (v := .int (fgv T n 0 7 (i + 1))) (ty := .int) (C := RX7) (T := TX7) (N := 12) hx hb hts hinX7 tyX7 tyX7_ok nmX7 hown hK hP hD hS 0 rfl rfl 8 (by decide) (hts (.fieldLink RX7 174 "RibbonBalloonsModel" "first" "I") (by decide +kernel)) (fun _ h9 => h9) rfl (by decide +kernel) rfl rfl (Nat.le_of_ble_eq_true rfl) dX7_readsPart_163 (fun H locs hP hD hS => ?_)
  have hP : va_P D vwCl (List.flatten [mdO m0 m1 m2 m3 th sv kp (nI n) (nI (fgp T n 0 7 (i + 1))) (cod T n i) (fgv T n 0 7 (i + 1)) sd hs, arC cI m1 1170 (enc B), arC cI m2 60 T, arC cI m3 8 h]) _ := hP
  have hD : va_D A (List.flatten [mdO m0 m1 m2 m3 th sv kp (nI n) (nI (fgp T n 0 7 (i + 1))) (cod T n i) (fgv T n 0 7 (i + 1)) sd hs, arC cI m1 1170 (enc B), arC cI m2 60 T, arC cI m3 8 h]) := hD
  refine lv_aload_n hx hb dX7_readsPart_166 rfl (lv_at hl 0 rfl) ?_
  refine lv_aload_n hx hb dX7_readsPart_167 rfl (lv_at hl 0 rfl) ?_
  refine va_get (D := D) (ci := 7) (v := .int (fgv T n 0 7 (i + 1))) (C := RX7) (T := TX7) (N := 12) hx hb hts hinX7 hown hK hP 0 rfl rfl 8 (by decide) (hts (.fieldLink RX7 174 "RibbonBalloonsModel" "first" "I") (by decide +kernel)) (fun _ h9 => h9) rfl dX7_readsPart_168 ?_
  refine lv_sipush (v := (-1000)) hx hb dX7_readsPart_171 (by decide) ?_
  refine lv_icmp_ne (tgt := 183) hx hb dX7_readsPart_174 (by decide) (fun c174 => ?_) (fun c174 => ?_)
  · skip
    refine lv_aload_n hx hb dX7_readsPart_183 rfl (lv_at hl 0 rfl) ?_
    refine kcallV (As := []) (rest := [.ref m0]) (Wn := [mdO m0 m1 m2 m3 th sv kp (nI n) (nI (amp T n (fgp T n 0 7 (i + 1)))) (cod T n i) (fgv T n 0 7 (i + 1)) sd hs, arC cI m1 1170 (enc B), arC cI m2 60 T, arC cI m3 8 h]) X (c_X7_readsAmount l D cI cZ cS cJ m0 m1 m2 m3 th sv kp (cod T n i) (fgv T n 0 7 (i + 1)) sd hs B T h n (fgp T n 0 7 (i + 1)) (by omega) (fgp_le dg7 hi1)) (cwV 0 hts gX7_readsPart_X7_readsAmount rfl rfl rfl (by decide +kernel) ⟨Nat.le_of_ble_eq_true rfl, Nat.le_of_ble_eq_true rfl⟩) hK hP hD hS hA [0, 1, 2, 3] rfl (by decide +kernel) rfl rfl rfl 0 7 rfl rfl rfl hl.1 rfl (Nat.le_of_ble_eq_true rfl) dX7_readsPart_184 ⟨Nat.le_of_ble_eq_true rfl, Nat.le_of_ble_eq_true rfl⟩ (fun H locs hP hD hS => ?_)
    refine va_put (D := D) (ci := 7) (v := .int (amv T n (fgp T n 0 7 (i + 1)))) (ty := .int) (C := RX7) (T := TX7) (N := 12) hx hb hts hinX7 tyX7 tyX7_ok nmX7 hown hK hP hD hS 0 rfl rfl 9 (by decide) (hts (.fieldLink RX7 177 "RibbonBalloonsModel" "second" "I") (by decide +kernel)) (fun _ h9 => h9) rfl (by decide +kernel) rfl rfl (Nat.le_of_ble_eq_true rfl) dX7_readsPart_187 (fun H locs hP hD hS => ?_)
    have hP : va_P D vwCl (List.flatten [mdO m0 m1 m2 m3 th sv kp (nI n) (nI (amp T n (fgp T n 0 7 (i + 1)))) (cod T n i) (fgv T n 0 7 (i + 1)) (amv T n (fgp T n 0 7 (i + 1))) hs, arC cI m1 1170 (enc B), arC cI m2 60 T, arC cI m3 8 h]) _ := hP
    have hD : va_D A (List.flatten [mdO m0 m1 m2 m3 th sv kp (nI n) (nI (amp T n (fgp T n 0 7 (i + 1)))) (cod T n i) (fgv T n 0 7 (i + 1)) (amv T n (fgp T n 0 7 (i + 1))) hs, arC cI m1 1170 (enc B), arC cI m2 60 T, arC cI m3 8 h]) := hD
    refine lv_aload_n hx hb dX7_readsPart_190 rfl (lv_at hl 0 rfl) ?_
    refine va_get (D := D) (ci := 7) (v := .int (amv T n (fgp T n 0 7 (i + 1)))) (C := RX7) (T := TX7) (N := 12) hx hb hts hinX7 hown hK hP 0 rfl rfl 9 (by decide) (hts (.fieldLink RX7 177 "RibbonBalloonsModel" "second" "I") (by decide +kernel)) (fun _ h9 => h9) rfl dX7_readsPart_191 ?_
    refine lv_sipush (v := (-1000)) hx hb dX7_readsPart_194 (by decide) ?_
    refine lv_icmp_eq (tgt := 204) hx hb dX7_readsPart_197 (by decide) (fun c197 => ?_) (fun c197 => ?_)
    · skip
      refine lv_iconst (v := 0) hx hb dX7_readsPart_204 (by decide) ?_
      have eZ : nI (amp T n (fgp T n 0 7 (i + 1))) = nI (prP T n i) := by first | exact pp2a hr c174 | exact pp2b hr c174
      obtain ⟨hP, hD⟩ := PD_re (wn := List.flatten [mdO m0 m1 m2 m3 th sv kp (nI n) (nI (prP T n i)) (cod T n i) (fgv T n 0 7 (i + 1)) (amv T n (fgp T n 0 7 (i + 1))) hs, arC cI m1 1170 (enc B), arC cI m2 60 T, arC cI m3 8 h]) (by rw [eZ]) hP hD
      have eZ : fgv T n 0 7 (i + 1) = prF T n i := pf2 hr
      obtain ⟨hP, hD⟩ := PD_re (wn := List.flatten [mdO m0 m1 m2 m3 th sv kp (nI n) (nI (prP T n i)) (cod T n i) (prF T n i) (amv T n (fgp T n 0 7 (i + 1))) hs, arC cI m1 1170 (enc B), arC cI m2 60 T, arC cI m3 8 h]) (by rw [eZ]) hP hD
      refine hend (amv T n (fgp T n 0 7 (i + 1))) _ _ _ _ _ (by first | exact fun _ => ps2a hr c174 | exact fun _ => ps2b hr c174) ?_ hP hD hS dX7_readsPart_205
      first | exact pro_n (fun q => q ((po2a hr c174).trans c197)) | exact pro_y (fun q => c197 ((po2a hr c174).symm.trans q)) | exact pro_n (fun q => q (po2b hr c174))
    · skip
      refine lv_iconst (v := 1) hx hb dX7_readsPart_200 (by decide) ?_
      refine lv_goto (tgt := 205) hx hb dX7_readsPart_201 (by decide) ?_
      have eZ : nI (amp T n (fgp T n 0 7 (i + 1))) = nI (prP T n i) := by first | exact pp2a hr c174 | exact pp2b hr c174
      obtain ⟨hP, hD⟩ := PD_re (wn := List.flatten [mdO m0 m1 m2 m3 th sv kp (nI n) (nI (prP T n i)) (cod T n i) (fgv T n 0 7 (i + 1)) (amv T n (fgp T n 0 7 (i + 1))) hs, arC cI m1 1170 (enc B), arC cI m2 60 T, arC cI m3 8 h]) (by rw [eZ]) hP hD
      have eZ : fgv T n 0 7 (i + 1) = prF T n i := pf2 hr
      obtain ⟨hP, hD⟩ := PD_re (wn := List.flatten [mdO m0 m1 m2 m3 th sv kp (nI n) (nI (prP T n i)) (cod T n i) (prF T n i) (amv T n (fgp T n 0 7 (i + 1))) hs, arC cI m1 1170 (enc B), arC cI m2 60 T, arC cI m3 8 h]) (by rw [eZ]) hP hD
      refine hend (amv T n (fgp T n 0 7 (i + 1))) _ _ _ _ _ (by first | exact fun _ => ps2a hr c174 | exact fun _ => ps2b hr c174) ?_ hP hD hS dX7_readsPart_205
      first | exact pro_n (fun q => q ((po2a hr c174).trans c197)) | exact pro_y (fun q => c197 ((po2a hr c174).symm.trans q)) | exact pro_n (fun q => q (po2b hr c174))
  · skip
    refine lv_sipush (v := (-1000)) hx hb dX7_readsPart_177 (by decide) ?_
    refine lv_goto (tgt := 187) hx hb dX7_readsPart_180 (by decide) ?_
    refine va_put (D := D) (ci := 7) (v := .int (-1000)) (ty := .int) (C := RX7) (T := TX7) (N := 12) hx hb hts hinX7 tyX7 tyX7_ok nmX7 hown hK hP hD hS 0 rfl rfl 9 (by decide) (hts (.fieldLink RX7 177 "RibbonBalloonsModel" "second" "I") (by decide +kernel)) (fun _ h9 => h9) rfl (by decide +kernel) rfl rfl (Nat.le_of_ble_eq_true rfl) dX7_readsPart_187 (fun H locs hP hD hS => ?_)
    have hP : va_P D vwCl (List.flatten [mdO m0 m1 m2 m3 th sv kp (nI n) (nI (fgp T n 0 7 (i + 1))) (cod T n i) (fgv T n 0 7 (i + 1)) (-1000) hs, arC cI m1 1170 (enc B), arC cI m2 60 T, arC cI m3 8 h]) _ := hP
    have hD : va_D A (List.flatten [mdO m0 m1 m2 m3 th sv kp (nI n) (nI (fgp T n 0 7 (i + 1))) (cod T n i) (fgv T n 0 7 (i + 1)) (-1000) hs, arC cI m1 1170 (enc B), arC cI m2 60 T, arC cI m3 8 h]) := hD
    refine lv_aload_n hx hb dX7_readsPart_190 rfl (lv_at hl 0 rfl) ?_
    refine va_get (D := D) (ci := 7) (v := .int (-1000)) (C := RX7) (T := TX7) (N := 12) hx hb hts hinX7 hown hK hP 0 rfl rfl 9 (by decide) (hts (.fieldLink RX7 177 "RibbonBalloonsModel" "second" "I") (by decide +kernel)) (fun _ h9 => h9) rfl dX7_readsPart_191 ?_
    refine lv_sipush (v := (-1000)) hx hb dX7_readsPart_194 (by decide) ?_
    refine lv_icmp_eq (tgt := 204) hx hb dX7_readsPart_197 (by decide) (fun _ => ?_) (fun h => absurd rfl h)
    refine lv_iconst (v := 0) hx hb dX7_readsPart_204 (by decide) ?_
    have eZ : nI (fgp T n 0 7 (i + 1)) = nI (prP T n i) := by first | exact pp2a hr c174 | exact pp2b hr c174
    obtain ⟨hP, hD⟩ := PD_re (wn := List.flatten [mdO m0 m1 m2 m3 th sv kp (nI n) (nI (prP T n i)) (cod T n i) (fgv T n 0 7 (i + 1)) (-1000) hs, arC cI m1 1170 (enc B), arC cI m2 60 T, arC cI m3 8 h]) (by rw [eZ]) hP hD
    have eZ : fgv T n 0 7 (i + 1) = prF T n i := pf2 hr
    obtain ⟨hP, hD⟩ := PD_re (wn := List.flatten [mdO m0 m1 m2 m3 th sv kp (nI n) (nI (prP T n i)) (cod T n i) (prF T n i) (-1000) hs, arC cI m1 1170 (enc B), arC cI m2 60 T, arC cI m3 8 h]) (by rw [eZ]) hP hD
    refine hend ((-1000)) _ _ _ _ _ (by first | exact fun _ => ps2a hr c174 | exact fun _ => ps2b hr c174) ?_ hP hD hS dX7_readsPart_205
    first | exact pro_n (fun q => q ((po2a hr c174).trans c197)) | exact pro_y (fun q => c197 ((po2a hr c174).symm.trans q)) | exact pro_n (fun q => q (po2b hr c174))

set_option maxHeartbeats 4000000 in
set_option maxRecDepth 100000 in
theorem c_X7_readsPart0 (l : Launch) (D : va_G) (cI cZ cS cJ : ClassId) (m0 : Nat) (m1 : Nat) (m2 : Nat) (m3 : Nat) (th : Int32) (sv : Int32) (kp : Int32) (lt : Int32) (fi : Int32) (sd : Int32) (hs : Int64) (B : Nat → Nat → Nat → Int32) (T : Nat → Int32) (h : Nat → Int32) (n : Nat) (i : Nat) (hn60 : n ≤ 60) (hin : i ≤ n) (hr : rdL (cod T n i) = 0) : CE (U := (Int32)) l yX7_readsPart wsX7_readsPart ({ frames := 3, cells := 0, slots := 0, locals := 67 }) D (tyL cI cZ cS cJ) [.ref m0] (List.flatten [mdO m0 m1 m2 m3 th sv kp (nI n) (nI i) lt fi sd hs, arC cI m1 1170 (enc B), arC cI m2 60 T, arC cI m3 8 h]) (fun u => (rdL (cod T n i) = 2 → u = prS T n i)) (fun u => some (.int (b1 (prO T n i)))) (fun u => List.flatten [mdO m0 m1 m2 m3 th sv kp (nI n) (nI (prP T n i)) (cod T n i) (prF T n i) u hs, arC cI m1 1170 (enc B), arC cI m2 60 T, arC cI m3 8 h]) 0 0 := by
  refine CE_int (cc := cX7_readsPart) (maxL := 1) (rt := .boolean) (by decide) rfl (Nat.le_of_ble_eq_true rfl) (fun _ _ => nar_b1 _) ?_
  intro p e s m below meth c A ls Q X hK hP hD hS hA hl hend
  have X : CallFix p m c cX7_readsPart 1 s ([.ref m0] : List Value).toArray wsX7_readsPart RX7 := X
  obtain ⟨hx, hb, hml, hown, hts⟩ := id X
  have hl : lv_has ls 1 [(0, .ref m0)] := hl
  have hinX7 : ∀ w ∈ u_ws RX7 TX7 12, w ∈ wsX7_readsPart := by decide +kernel
  refine lv_aload_n hx hb dX7_readsPart_0 rfl (lv_at hl 0 rfl) ?_
  refine lv_aload_n hx hb dX7_readsPart_1 rfl (lv_at hl 0 rfl) ?_
  refine kcallV (As := []) (rest := [.ref m0]) (Wn := [mdO m0 m1 m2 m3 th sv kp (nI n) (nI i) lt fi sd hs, arC cI m1 1170 (enc B), arC cI m2 60 T, arC cI m3 8 h]) X (c_X7_sign l D cI cZ cS cJ m0 m1 m2 m3 th sv kp lt fi sd hs B T h n i (by omega) (by omega)) (cwV 0 hts gX7_readsPart_X7_sign rfl rfl rfl (by decide +kernel) ⟨Nat.le_of_ble_eq_true rfl, Nat.le_of_ble_eq_true rfl⟩) hK hP hD hS hA [0, 1, 2, 3] rfl (by decide +kernel) rfl rfl rfl 0 7 rfl rfl rfl hl.1 rfl (Nat.le_of_ble_eq_true rfl) dX7_readsPart_2 ⟨Nat.le_of_ble_eq_true rfl, Nat.le_of_ble_eq_true rfl⟩ (fun H locs hP hD hS => ?_)
  refine va_put (D := D) (ci := 7) (v := .int (cod T n i)) (ty := .int) (C := RX7) (T := TX7) (N := 12) hx hb hts hinX7 tyX7 tyX7_ok nmX7 hown hK hP hD hS 0 rfl rfl 7 (by decide) (hts (.fieldLink RX7 165 "RibbonBalloonsModel" "letter" "I") (by decide +kernel)) (fun _ h9 => h9) rfl (by decide +kernel) rfl rfl (Nat.le_of_ble_eq_true rfl) dX7_readsPart_5 (fun H locs hP hD hS => ?_)
  have hP : va_P D vwCl (List.flatten [mdO m0 m1 m2 m3 th sv kp (nI n) (nI i) (cod T n i) fi sd hs, arC cI m1 1170 (enc B), arC cI m2 60 T, arC cI m3 8 h]) _ := hP
  have hD : va_D A (List.flatten [mdO m0 m1 m2 m3 th sv kp (nI n) (nI i) (cod T n i) fi sd hs, arC cI m1 1170 (enc B), arC cI m2 60 T, arC cI m3 8 h]) := hD
  refine lv_aload_n hx hb dX7_readsPart_8 rfl (lv_at hl 0 rfl) ?_
  refine lv_bipush (v := 104) hx hb dX7_readsPart_9 (by decide) ?_
  refine kcallV (As := [.int 104]) (rest := []) (Wn := [mdO m0 m1 m2 m3 th sv kp (nI n) (nI (tkp T n i 104)) (cod T n i) fi sd hs, arC cI m1 1170 (enc B), arC cI m2 60 T, arC cI m3 8 h]) X (c_X7_takes l D cI cZ cS cJ m0 m1 m2 m3 th sv kp (cod T n i) fi sd hs B T h n i 104 (by omega) (by omega)) (cwV 1 hts gX7_readsPart_X7_takes rfl rfl rfl (by decide +kernel) ⟨Nat.le_of_ble_eq_true rfl, Nat.le_of_ble_eq_true rfl⟩) hK hP hD hS hA [0, 1, 2, 3] rfl (by decide +kernel) rfl rfl rfl 0 7 rfl rfl rfl hl.1 rfl (Nat.le_of_ble_eq_true rfl) dX7_readsPart_11 ⟨Nat.le_of_ble_eq_true rfl, Nat.le_of_ble_eq_true rfl⟩ (fun H locs hP hD hS => ?_)
  refine lv_if_eq (tgt := 41) hx hb dX7_readsPart_14 (by decide) (fun _ => ?_) (fun h => absurd (b1_no (rdL0_ne hr (by decide))) h)
  have eZ : nI (tkp T n i 104) = nI i := congrArg nI (tkp_n (rdL0_ne hr (by decide)))
  obtain ⟨hP, hD⟩ := PD_re (wn := List.flatten [mdO m0 m1 m2 m3 th sv kp (nI n) (nI i) (cod T n i) fi sd hs, arC cI m1 1170 (enc B), arC cI m2 60 T, arC cI m3 8 h]) (by rw [eZ]) hP hD
  refine lv_aload_n hx hb dX7_readsPart_41 rfl (lv_at hl 0 rfl) ?_
  refine lv_bipush (v := 99) hx hb dX7_readsPart_42 (by decide) ?_
  refine kcallV (As := [.int 99]) (rest := []) (Wn := [mdO m0 m1 m2 m3 th sv kp (nI n) (nI (tkp T n i 99)) (cod T n i) fi sd hs, arC cI m1 1170 (enc B), arC cI m2 60 T, arC cI m3 8 h]) X (c_X7_takes l D cI cZ cS cJ m0 m1 m2 m3 th sv kp (cod T n i) fi sd hs B T h n i 99 (by omega) (by omega)) (cwV 1 hts gX7_readsPart_X7_takes rfl rfl rfl (by decide +kernel) ⟨Nat.le_of_ble_eq_true rfl, Nat.le_of_ble_eq_true rfl⟩) hK hP hD hS hA [0, 1, 2, 3] rfl (by decide +kernel) rfl rfl rfl 0 7 rfl rfl rfl hl.1 rfl (Nat.le_of_ble_eq_true rfl) dX7_readsPart_44 ⟨Nat.le_of_ble_eq_true rfl, Nat.le_of_ble_eq_true rfl⟩ (fun H locs hP hD hS => ?_)
  refine lv_if_eq (tgt := 77) hx hb dX7_readsPart_47 (by decide) (fun _ => ?_) (fun h => absurd (b1_no (rdL0_ne hr (by decide))) h)
  have eZ : nI (tkp T n i 99) = nI i := congrArg nI (tkp_n (rdL0_ne hr (by decide)))
  obtain ⟨hP, hD⟩ := PD_re (wn := List.flatten [mdO m0 m1 m2 m3 th sv kp (nI n) (nI i) (cod T n i) fi sd hs, arC cI m1 1170 (enc B), arC cI m2 60 T, arC cI m3 8 h]) (by rw [eZ]) hP hD
  refine lv_aload_n hx hb dX7_readsPart_77 rfl (lv_at hl 0 rfl) ?_
  refine lv_bipush (v := 100) hx hb dX7_readsPart_78 (by decide) ?_
  refine kcallV (As := [.int 100]) (rest := []) (Wn := [mdO m0 m1 m2 m3 th sv kp (nI n) (nI (tkp T n i 100)) (cod T n i) fi sd hs, arC cI m1 1170 (enc B), arC cI m2 60 T, arC cI m3 8 h]) X (c_X7_takes l D cI cZ cS cJ m0 m1 m2 m3 th sv kp (cod T n i) fi sd hs B T h n i 100 (by omega) (by omega)) (cwV 1 hts gX7_readsPart_X7_takes rfl rfl rfl (by decide +kernel) ⟨Nat.le_of_ble_eq_true rfl, Nat.le_of_ble_eq_true rfl⟩) hK hP hD hS hA [0, 1, 2, 3] rfl (by decide +kernel) rfl rfl rfl 0 7 rfl rfl rfl hl.1 rfl (Nat.le_of_ble_eq_true rfl) dX7_readsPart_80 ⟨Nat.le_of_ble_eq_true rfl, Nat.le_of_ble_eq_true rfl⟩ (fun H locs hP hD hS => ?_)
  refine lv_if_ne (tgt := 104) hx hb dX7_readsPart_83 (by decide) (fun h => absurd h (not_not_intro (b1_no (rdL0_ne hr (by decide))))) (fun _ => ?_)
  have eZ : nI (tkp T n i 100) = nI i := congrArg nI (tkp_n (rdL0_ne hr (by decide)))
  obtain ⟨hP, hD⟩ := PD_re (wn := List.flatten [mdO m0 m1 m2 m3 th sv kp (nI n) (nI i) (cod T n i) fi sd hs, arC cI m1 1170 (enc B), arC cI m2 60 T, arC cI m3 8 h]) (by rw [eZ]) hP hD
  refine lv_aload_n hx hb dX7_readsPart_86 rfl (lv_at hl 0 rfl) ?_
  refine lv_bipush (v := 112) hx hb dX7_readsPart_87 (by decide) ?_
  refine kcallV (As := [.int 112]) (rest := []) (Wn := [mdO m0 m1 m2 m3 th sv kp (nI n) (nI (tkp T n i 112)) (cod T n i) fi sd hs, arC cI m1 1170 (enc B), arC cI m2 60 T, arC cI m3 8 h]) X (c_X7_takes l D cI cZ cS cJ m0 m1 m2 m3 th sv kp (cod T n i) fi sd hs B T h n i 112 (by omega) (by omega)) (cwV 1 hts gX7_readsPart_X7_takes rfl rfl rfl (by decide +kernel) ⟨Nat.le_of_ble_eq_true rfl, Nat.le_of_ble_eq_true rfl⟩) hK hP hD hS hA [0, 1, 2, 3] rfl (by decide +kernel) rfl rfl rfl 0 7 rfl rfl rfl hl.1 rfl (Nat.le_of_ble_eq_true rfl) dX7_readsPart_89 ⟨Nat.le_of_ble_eq_true rfl, Nat.le_of_ble_eq_true rfl⟩ (fun H locs hP hD hS => ?_)
  refine lv_if_ne (tgt := 104) hx hb dX7_readsPart_92 (by decide) (fun h => absurd h (not_not_intro (b1_no (rdL0_ne hr (by decide))))) (fun _ => ?_)
  have eZ : nI (tkp T n i 112) = nI i := congrArg nI (tkp_n (rdL0_ne hr (by decide)))
  obtain ⟨hP, hD⟩ := PD_re (wn := List.flatten [mdO m0 m1 m2 m3 th sv kp (nI n) (nI i) (cod T n i) fi sd hs, arC cI m1 1170 (enc B), arC cI m2 60 T, arC cI m3 8 h]) (by rw [eZ]) hP hD
  refine lv_aload_n hx hb dX7_readsPart_95 rfl (lv_at hl 0 rfl) ?_
  refine lv_bipush (v := 110) hx hb dX7_readsPart_96 (by decide) ?_
  refine kcallV (As := [.int 110]) (rest := []) (Wn := [mdO m0 m1 m2 m3 th sv kp (nI n) (nI (tkp T n i 110)) (cod T n i) fi sd hs, arC cI m1 1170 (enc B), arC cI m2 60 T, arC cI m3 8 h]) X (c_X7_takes l D cI cZ cS cJ m0 m1 m2 m3 th sv kp (cod T n i) fi sd hs B T h n i 110 (by omega) (by omega)) (cwV 1 hts gX7_readsPart_X7_takes rfl rfl rfl (by decide +kernel) ⟨Nat.le_of_ble_eq_true rfl, Nat.le_of_ble_eq_true rfl⟩) hK hP hD hS hA [0, 1, 2, 3] rfl (by decide +kernel) rfl rfl rfl 0 7 rfl rfl rfl hl.1 rfl (Nat.le_of_ble_eq_true rfl) dX7_readsPart_98 ⟨Nat.le_of_ble_eq_true rfl, Nat.le_of_ble_eq_true rfl⟩ (fun H locs hP hD hS => ?_)
  refine lv_if_eq (tgt := 131) hx hb dX7_readsPart_101 (by decide) (fun _ => ?_) (fun h => absurd (b1_no (rdL0_ne hr (by decide))) h)
  have eZ : nI (tkp T n i 110) = nI i := congrArg nI (tkp_n (rdL0_ne hr (by decide)))
  obtain ⟨hP, hD⟩ := PD_re (wn := List.flatten [mdO m0 m1 m2 m3 th sv kp (nI n) (nI i) (cod T n i) fi sd hs, arC cI m1 1170 (enc B), arC cI m2 60 T, arC cI m3 8 h]) (by rw [eZ]) hP hD
  refine lv_aload_n hx hb dX7_readsPart_131 rfl (lv_at hl 0 rfl) ?_
  refine lv_aload_n hx hb dX7_readsPart_132 rfl (lv_at hl 0 rfl) ?_
  refine lv_bipush (v := 102) hx hb dX7_readsPart_133 (by decide) ?_
  refine kcallV (As := [.int 102]) (rest := [.ref m0]) (Wn := [mdO m0 m1 m2 m3 th sv kp (nI n) (nI (tkp T n i 102)) (cod T n i) fi sd hs, arC cI m1 1170 (enc B), arC cI m2 60 T, arC cI m3 8 h]) X (c_X7_takes l D cI cZ cS cJ m0 m1 m2 m3 th sv kp (cod T n i) fi sd hs B T h n i 102 (by omega) (by omega)) (cwV 1 hts gX7_readsPart_X7_takes rfl rfl rfl (by decide +kernel) ⟨Nat.le_of_ble_eq_true rfl, Nat.le_of_ble_eq_true rfl⟩) hK hP hD hS hA [0, 1, 2, 3] rfl (by decide +kernel) rfl rfl rfl 0 7 rfl rfl rfl hl.1 rfl (Nat.le_of_ble_eq_true rfl) dX7_readsPart_135 ⟨Nat.le_of_ble_eq_true rfl, Nat.le_of_ble_eq_true rfl⟩ (fun H locs hP hD hS => ?_)
  refine lv_if_ne (tgt := 150) hx hb dX7_readsPart_138 (by decide) (fun h => absurd h (not_not_intro (b1_no (rdL0_ne hr (by decide))))) (fun _ => ?_)
  have eZ : nI (tkp T n i 102) = nI i := congrArg nI (tkp_n (rdL0_ne hr (by decide)))
  obtain ⟨hP, hD⟩ := PD_re (wn := List.flatten [mdO m0 m1 m2 m3 th sv kp (nI n) (nI i) (cod T n i) fi sd hs, arC cI m1 1170 (enc B), arC cI m2 60 T, arC cI m3 8 h]) (by rw [eZ]) hP hD
  refine lv_aload_n hx hb dX7_readsPart_141 rfl (lv_at hl 0 rfl) ?_
  refine lv_bipush (v := 118) hx hb dX7_readsPart_142 (by decide) ?_
  refine kcallV (As := [.int 118]) (rest := [.ref m0]) (Wn := [mdO m0 m1 m2 m3 th sv kp (nI n) (nI (tkp T n i 118)) (cod T n i) fi sd hs, arC cI m1 1170 (enc B), arC cI m2 60 T, arC cI m3 8 h]) X (c_X7_takes l D cI cZ cS cJ m0 m1 m2 m3 th sv kp (cod T n i) fi sd hs B T h n i 118 (by omega) (by omega)) (cwV 1 hts gX7_readsPart_X7_takes rfl rfl rfl (by decide +kernel) ⟨Nat.le_of_ble_eq_true rfl, Nat.le_of_ble_eq_true rfl⟩) hK hP hD hS hA [0, 1, 2, 3] rfl (by decide +kernel) rfl rfl rfl 0 7 rfl rfl rfl hl.1 rfl (Nat.le_of_ble_eq_true rfl) dX7_readsPart_144 ⟨Nat.le_of_ble_eq_true rfl, Nat.le_of_ble_eq_true rfl⟩ (fun H locs hP hD hS => ?_)
  refine lv_if_eq (tgt := 160) hx hb dX7_readsPart_147 (by decide) (fun _ => ?_) (fun h => absurd (b1_no (rdL0_ne hr (by decide))) h)
  have eZ : nI (tkp T n i 118) = nI i := congrArg nI (tkp_n (rdL0_ne hr (by decide)))
  obtain ⟨hP, hD⟩ := PD_re (wn := List.flatten [mdO m0 m1 m2 m3 th sv kp (nI n) (nI i) (cod T n i) fi sd hs, arC cI m1 1170 (enc B), arC cI m2 60 T, arC cI m3 8 h]) (by rw [eZ]) hP hD
  refine lv_sipush (v := (-1000)) hx hb dX7_readsPart_160 (by decide) ?_
  refine va_put (D := D) (ci := 7) (v := .int (-1000)) (ty := .int) (C := RX7) (T := TX7) (N := 12) hx hb hts hinX7 tyX7 tyX7_ok nmX7 hown hK hP hD hS 0 rfl rfl 8 (by decide) (hts (.fieldLink RX7 174 "RibbonBalloonsModel" "first" "I") (by decide +kernel)) (fun _ h9 => h9) rfl (by decide +kernel) rfl rfl (Nat.le_of_ble_eq_true rfl) dX7_readsPart_163 (fun H locs hP hD hS => ?_)
  have hP : va_P D vwCl (List.flatten [mdO m0 m1 m2 m3 th sv kp (nI n) (nI i) (cod T n i) (-1000) sd hs, arC cI m1 1170 (enc B), arC cI m2 60 T, arC cI m3 8 h]) _ := hP
  have hD : va_D A (List.flatten [mdO m0 m1 m2 m3 th sv kp (nI n) (nI i) (cod T n i) (-1000) sd hs, arC cI m1 1170 (enc B), arC cI m2 60 T, arC cI m3 8 h]) := hD
  refine lv_aload_n hx hb dX7_readsPart_166 rfl (lv_at hl 0 rfl) ?_
  refine lv_aload_n hx hb dX7_readsPart_167 rfl (lv_at hl 0 rfl) ?_
  refine va_get (D := D) (ci := 7) (v := .int (-1000)) (C := RX7) (T := TX7) (N := 12) hx hb hts hinX7 hown hK hP 0 rfl rfl 8 (by decide) (hts (.fieldLink RX7 174 "RibbonBalloonsModel" "first" "I") (by decide +kernel)) (fun _ h9 => h9) rfl dX7_readsPart_168 ?_
  refine lv_sipush (v := (-1000)) hx hb dX7_readsPart_171 (by decide) ?_
  refine lv_icmp_ne (tgt := 183) hx hb dX7_readsPart_174 (by decide) (fun h => absurd h (not_not_intro rfl)) (fun _ => ?_)
  refine lv_sipush (v := (-1000)) hx hb dX7_readsPart_177 (by decide) ?_
  refine lv_goto (tgt := 187) hx hb dX7_readsPart_180 (by decide) ?_
  refine va_put (D := D) (ci := 7) (v := .int (-1000)) (ty := .int) (C := RX7) (T := TX7) (N := 12) hx hb hts hinX7 tyX7 tyX7_ok nmX7 hown hK hP hD hS 0 rfl rfl 9 (by decide) (hts (.fieldLink RX7 177 "RibbonBalloonsModel" "second" "I") (by decide +kernel)) (fun _ h9 => h9) rfl (by decide +kernel) rfl rfl (Nat.le_of_ble_eq_true rfl) dX7_readsPart_187 (fun H locs hP hD hS => ?_)
  have hP : va_P D vwCl (List.flatten [mdO m0 m1 m2 m3 th sv kp (nI n) (nI i) (cod T n i) (-1000) (-1000) hs, arC cI m1 1170 (enc B), arC cI m2 60 T, arC cI m3 8 h]) _ := hP
  have hD : va_D A (List.flatten [mdO m0 m1 m2 m3 th sv kp (nI n) (nI i) (cod T n i) (-1000) (-1000) hs, arC cI m1 1170 (enc B), arC cI m2 60 T, arC cI m3 8 h]) := hD
  refine lv_aload_n hx hb dX7_readsPart_190 rfl (lv_at hl 0 rfl) ?_
  refine va_get (D := D) (ci := 7) (v := .int (-1000)) (C := RX7) (T := TX7) (N := 12) hx hb hts hinX7 hown hK hP 0 rfl rfl 9 (by decide) (hts (.fieldLink RX7 177 "RibbonBalloonsModel" "second" "I") (by decide +kernel)) (fun _ h9 => h9) rfl dX7_readsPart_191 ?_
  refine lv_sipush (v := (-1000)) hx hb dX7_readsPart_194 (by decide) ?_
  refine lv_icmp_eq (tgt := 204) hx hb dX7_readsPart_197 (by decide) (fun _ => ?_) (fun h => absurd rfl h)
  refine lv_iconst (v := 0) hx hb dX7_readsPart_204 (by decide) ?_
  have eZ : nI i = nI (prP T n i) := pp0 hr
  obtain ⟨hP, hD⟩ := PD_re (wn := List.flatten [mdO m0 m1 m2 m3 th sv kp (nI n) (nI (prP T n i)) (cod T n i) (-1000) (-1000) hs, arC cI m1 1170 (enc B), arC cI m2 60 T, arC cI m3 8 h]) (by rw [eZ]) hP hD
  have eZ : (-1000) = prF T n i := pf0 hr
  obtain ⟨hP, hD⟩ := PD_re (wn := List.flatten [mdO m0 m1 m2 m3 th sv kp (nI n) (nI (prP T n i)) (cod T n i) (prF T n i) (-1000) hs, arC cI m1 1170 (enc B), arC cI m2 60 T, arC cI m3 8 h]) (by rw [eZ]) hP hD
  refine hend ((-1000)) _ _ _ _ _ (by exact fun q => absurd (hr.symm.trans q) (by decide)) ?_ hP hD hS dX7_readsPart_205
  exact pro_n (fun q => q (po0 hr))

set_option maxHeartbeats 4000000 in
set_option maxRecDepth 100000 in
theorem c_X7_readsPart (l : Launch) (D : va_G) (cI cZ cS cJ : ClassId) (m0 : Nat) (m1 : Nat) (m2 : Nat) (m3 : Nat) (th : Int32) (sv : Int32) (kp : Int32) (lt : Int32) (fi : Int32) (sd : Int32) (hs : Int64) (B : Nat → Nat → Nat → Int32) (T : Nat → Int32) (h : Nat → Int32) (n : Nat) (i : Nat) (hn60 : n ≤ 60) (hin : i ≤ n) : CE (U := (Int32)) l yX7_readsPart wsX7_readsPart ({ frames := 3, cells := 0, slots := 0, locals := 67 }) D (tyL cI cZ cS cJ) [.ref m0] (List.flatten [mdO m0 m1 m2 m3 th sv kp (nI n) (nI i) lt fi sd hs, arC cI m1 1170 (enc B), arC cI m2 60 T, arC cI m3 8 h]) (fun u => (rdL (cod T n i) = 2 → u = prS T n i)) (fun u => some (.int (b1 (prO T n i)))) (fun u => List.flatten [mdO m0 m1 m2 m3 th sv kp (nI n) (nI (prP T n i)) (cod T n i) (prF T n i) u hs, arC cI m1 1170 (enc B), arC cI m2 60 T, arC cI m3 8 h]) 0 0 := by
  rcases rdL_cases (cod T n i) with q | q | q | q | q
  · exact c_X7_readsPart0 l D cI cZ cS cJ m0 m1 m2 m3 th sv kp lt fi sd hs B T h n i hn60 hin q
  · rcases rdL_2 q with q | q
    · exact c_X7_readsPart102 l D cI cZ cS cJ m0 m1 m2 m3 th sv kp lt fi sd hs B T h n i hn60 hin q
    · exact c_X7_readsPart118 l D cI cZ cS cJ m0 m1 m2 m3 th sv kp lt fi sd hs B T h n i hn60 hin q
  · rcases rdL_3 q with q | q | q
    · exact c_X7_readsPart100 l D cI cZ cS cJ m0 m1 m2 m3 th sv kp lt fi sd hs B T h n i hn60 hin q
    · exact c_X7_readsPart112 l D cI cZ cS cJ m0 m1 m2 m3 th sv kp lt fi sd hs B T h n i hn60 hin q
    · exact c_X7_readsPart110 l D cI cZ cS cJ m0 m1 m2 m3 th sv kp lt fi sd hs B T h n i hn60 hin q
  · exact c_X7_readsPart99 l D cI cZ cS cJ m0 m1 m2 m3 th sv kp lt fi sd hs B T h n i hn60 hin (rdL_4 q)
  · exact c_X7_readsPart104 l D cI cZ cS cJ m0 m1 m2 m3 th sv kp lt fi sd hs B T h n i hn60 hin (rdL_5 q)

set_option maxHeartbeats 4000000 in
set_option maxRecDepth 100000 in
theorem c_X7_isWork (l : Launch) (D : va_G) (cI cZ cS cJ : ClassId) (m0 : Nat) (m1 : Nat) (m2 : Nat) (m3 : Nat) (th : Int32) (sv : Int32) (kp : Int32) (ca : Int32) (lt : Int32) (fi : Int32) (sd : Int32) (hs : Int64) (B : Nat → Nat → Nat → Int32) (T : Nat → Int32) (h : Nat → Int32) (n : Nat) (hn60 : n ≤ 60) : CE (U := (Int32) × (Int32) × (Int32)) l yX7_isWork wsX7_isWork ({ frames := 4, cells := 0, slots := 0, locals := 87 }) D (tyL cI cZ cS cJ) [.ref m0] (List.flatten [mdO m0 m1 m2 m3 th sv kp (nI n) ca lt fi sd hs, arC cI m1 1170 (enc B), arC cI m2 60 T, arC cI m3 8 h]) (fun u => True) (fun u => some (.int (b1 (rdS T n = 6 ∨ rdS T n = 7)))) (fun u => List.flatten [mdO m0 m1 m2 m3 th sv kp (nI n) (nI (epl T n)) u.1 u.2.1 u.2.2 hs, arC cI m1 1170 (enc B), arC cI m2 60 T, arC cI m3 8 h]) 0 0 := by
  refine CE_int (cc := cX7_isWork) (maxL := 1) (rt := .boolean) (by decide) rfl (Nat.le_of_ble_eq_true rfl) (fun _ _ => nar_b1 _) ?_
  intro p e s m below meth c A ls Q X hK hP hD hS hA hl hend
  have X : CallFix p m c cX7_isWork 1 s ([.ref m0] : List Value).toArray wsX7_isWork RX7 := X
  obtain ⟨hx, hb, hml, hown, hts⟩ := id X
  have hl : lv_has ls 1 [(0, .ref m0)] := hl
  have hinX7 : ∀ w ∈ u_ws RX7 TX7 12, w ∈ wsX7_isWork := by decide +kernel
  refine lv_aload_n hx hb dX7_isWork_0 rfl (lv_at hl 0 rfl) ?_
  refine lv_iconst (v := 0) hx hb dX7_isWork_1 (by decide) ?_
  refine va_put (D := D) (ci := 7) (v := .int 0) (ty := .int) (C := RX7) (T := TX7) (N := 12) hx hb hts hinX7 tyX7 tyX7_ok nmX7 hown hK hP hD hS 0 rfl rfl 6 (by decide) (hts (.fieldLink RX7 155 "RibbonBalloonsModel" "at" "I") (by decide +kernel)) (fun _ h9 => h9) rfl (by decide +kernel) rfl rfl (Nat.le_of_ble_eq_true rfl) dX7_isWork_2 (fun H locs hP hD hS => ?_)
  have hP : va_P D vwCl (List.flatten [mdO m0 m1 m2 m3 th sv kp (nI n) 0 lt fi sd hs, arC cI m1 1170 (enc B), arC cI m2 60 T, arC cI m3 8 h]) _ := hP
  have hD : va_D A (List.flatten [mdO m0 m1 m2 m3 th sv kp (nI n) 0 lt fi sd hs, arC cI m1 1170 (enc B), arC cI m2 60 T, arC cI m3 8 h]) := hD
  have lp_5 : ∀ (nn : Nat) (i : Nat) (lt1 : Int32) (fi1 : Int32) (sd1 : Int32), True → (i ≤ n) → (rdS T i = 1) → n - i < nn → ∀ (H : Heap) (locs : List Loc) (ls : Array Slot), va_P D vwCl (List.flatten [mdO m0 m1 m2 m3 th sv kp (nI n) (nI i) lt1 fi1 sd1 hs, arC cI m1 1170 (enc B), arC cI m2 60 T, arC cI m3 8 h]) H → va_D A (List.flatten [mdO m0 m1 m2 m3 th sv kp (nI n) (nI i) lt1 fi1 sd1 hs, arC cI m1 1170 (enc B), arC cI m2 60 T, arC cI m3 8 h]) → va_S A s.heap H locs → lv_has ls 1 [(0, .ref m0)] → W p l e ({ frames := 4, cells := 0, slots := 0, locals := 87 } : Room) s m ([.ref m0] : List Value).toArray below meth c H locs 0 0 Q (F0 m 5 ls []) := by
    intro nn
    induction nn with
    | zero => intro i lt1 fi1 sd1 _ hin hrd hmz; exact absurd hmz (Nat.not_lt_zero _)
    | succ nn ih =>
      intro i lt1 fi1 sd1 _ hin hrd hms H locs ls hP hD hS hl
      refine lv_aload_n hx hb dX7_isWork_5 rfl (lv_at hl 0 rfl) ?_
      refine kcallVE (As := []) (rest := []) (Wn := fun u => [mdO m0 m1 m2 m3 th sv kp (nI n) (nI (prP T n i)) (cod T n i) (prF T n i) u hs, arC cI m1 1170 (enc B), arC cI m2 60 T, arC cI m3 8 h]) X (c_X7_readsPart l D cI cZ cS cJ m0 m1 m2 m3 th sv kp lt1 fi1 sd1 hs B T h n i (by omega) (by omega)) (cwV 0 hts gX7_isWork_X7_readsPart rfl rfl rfl (by decide +kernel) ⟨Nat.le_of_ble_eq_true rfl, Nat.le_of_ble_eq_true rfl⟩) hK hP hD hS hA [0, 1, 2, 3] rfl (by decide +kernel) (fun _ => rfl) (fun _ => rfl) (fun _ => rfl) 0 7 rfl rfl rfl hl.1 rfl (Nat.le_of_ble_eq_true rfl) dX7_isWork_6 ⟨Nat.le_of_ble_eq_true rfl, Nat.le_of_ble_eq_true rfl⟩ (fun sd9_1 H locs hu hP hD hS => ?_)
      have hse_1 := hu
      have hP : va_P D vwCl (List.flatten [mdO m0 m1 m2 m3 th sv kp (nI n) (nI (prP T n i)) (cod T n i) (prF T n i) sd9_1 hs, arC cI m1 1170 (enc B), arC cI m2 60 T, arC cI m3 8 h]) _ := hP
      have hD : va_D A (List.flatten [mdO m0 m1 m2 m3 th sv kp (nI n) (nI (prP T n i)) (cod T n i) (prF T n i) sd9_1 hs, arC cI m1 1170 (enc B), arC cI m2 60 T, arC cI m3 8 h]) := hD
      refine lv_if_eq (tgt := 36) hx hb dX7_isWork_9 (by decide) (fun c9 => ?_) (fun c9 => ?_)
      · skip
        obtain ⟨hp1, hp2, hp3⟩ := part_no hrd hin (b1_z c9)
        refine lv_iconst (v := 0) hx hb dX7_isWork_36 (by decide) ?_
        have eZ : nI (prP T n i) = nI (epl T n) := by first | exact congrArg nI (epl_at hp1 (pe_ne hp3).1 (fun q => absurd q (by omega))).symm | exact ((congrArg nI (tkp_n (b1_z c31))).trans (congrArg nI (epl_at hp1 (pe_ne hp3).1 (semi_n hp3 (b1_z c31))).symm)) | exact congrArg nI (epl_at hp1 (by omega) hp3).symm
        obtain ⟨hP, hD⟩ := PD_re (wn := List.flatten [mdO m0 m1 m2 m3 th sv kp (nI n) (nI (epl T n)) (cod T n i) (prF T n i) sd9_1 hs, arC cI m1 1170 (enc B), arC cI m2 60 T, arC cI m3 8 h]) (by rw [eZ]) hP hD
        refine hend (cod T n i, prF T n i, sd9_1) _ _ _ _ _ trivial ?_ hP hD hS dX7_isWork_37
        exact (if_neg (part_end0 hp1 hp2 hp3)).symm
      · skip
        obtain ⟨hp1, hp2, hp3⟩ := part_ok hrd (b1_t c9)
        refine lv_aload_n hx hb dX7_isWork_12 rfl (lv_at hl 0 rfl) ?_
        refine va_get (D := D) (ci := 7) (v := .int (nI (prP T n i))) (C := RX7) (T := TX7) (N := 12) hx hb hts hinX7 hown hK hP 0 rfl rfl 6 (by decide) (hts (.fieldLink RX7 155 "RibbonBalloonsModel" "at" "I") (by decide +kernel)) (fun _ h9 => h9) rfl dX7_isWork_13 ?_
        refine lv_aload_n hx hb dX7_isWork_16 rfl (lv_at hl 0 rfl) ?_
        refine va_get (D := D) (ci := 7) (v := .int (nI n)) (C := RX7) (T := TX7) (N := 12) hx hb hts hinX7 hown hK hP 0 rfl rfl 5 (by decide) (hts (.fieldLink RX7 152 "RibbonBalloonsModel" "length" "I") (by decide +kernel)) (fun _ h9 => h9) rfl dX7_isWork_17 ?_
        refine n_ne (i := prP T n i) (j := n) (tgt := 25) hx hb (by omega) (by omega) dX7_isWork_20 (by decide) (fun c20 => ?_) (fun c20 => ?_)
        · skip
          refine lv_aload_n hx hb dX7_isWork_25 rfl (lv_at hl 0 rfl) ?_
          refine lv_bipush (v := 59) hx hb dX7_isWork_26 (by decide) ?_
          refine kcallV (As := [.int 59]) (rest := []) (Wn := [mdO m0 m1 m2 m3 th sv kp (nI n) (nI (tkp T n (prP T n i) 59)) (cod T n i) (prF T n i) sd9_1 hs, arC cI m1 1170 (enc B), arC cI m2 60 T, arC cI m3 8 h]) X (c_X7_takes l D cI cZ cS cJ m0 m1 m2 m3 th sv kp (cod T n i) (prF T n i) sd9_1 hs B T h n (prP T n i) 59 (by omega) hp1) (cwV 1 hts gX7_isWork_X7_takes rfl rfl rfl (by decide +kernel) ⟨Nat.le_of_ble_eq_true rfl, Nat.le_of_ble_eq_true rfl⟩) hK hP hD hS hA [0, 1, 2, 3] rfl (by decide +kernel) rfl rfl rfl 0 7 rfl rfl rfl hl.1 rfl (Nat.le_of_ble_eq_true rfl) dX7_isWork_28 ⟨Nat.le_of_ble_eq_true rfl, Nat.le_of_ble_eq_true rfl⟩ (fun H locs hP hD hS => ?_)
          refine lv_if_ne (tgt := 5) hx hb dX7_isWork_31 (by decide) (fun c31 => ?_) (fun c31 => ?_)
          · skip
            have eZ : nI (tkp T n (prP T n i) 59) = nI (prP T n i + 1) := congrArg nI (tkp_y (b1_t c31))
            obtain ⟨hP, hD⟩ := PD_re (wn := List.flatten [mdO m0 m1 m2 m3 th sv kp (nI n) (nI (prP T n i + 1)) (cod T n i) (prF T n i) sd9_1 hs, arC cI m1 1170 (enc B), arC cI m2 60 T, arC cI m3 8 h]) (by rw [eZ]) hP hD
            have hP : va_P D vwCl (List.flatten [mdO m0 m1 m2 m3 th sv kp (nI n) (nI (prP T n i + 1)) (cod T n i) (prF T n i) sd9_1 hs, arC cI m1 1170 (enc B), arC cI m2 60 T, arC cI m3 8 h]) _ := hP
            have hD : va_D A (List.flatten [mdO m0 m1 m2 m3 th sv kp (nI n) (nI (prP T n i + 1)) (cod T n i) (prF T n i) sd9_1 hs, arC cI m1 1170 (enc B), arC cI m2 60 T, arC cI m3 8 h]) := hD
            have hP : va_P D vwCl (List.flatten [mdO m0 m1 m2 m3 th sv kp (nI n) (nI (prP T n i + 1)) (cod T n i) (prF T n i) sd9_1 hs, arC cI m1 1170 (enc B), arC cI m2 60 T, arC cI m3 8 h]) _ := hP
            have hD : va_D A (List.flatten [mdO m0 m1 m2 m3 th sv kp (nI n) (nI (prP T n i + 1)) (cod T n i) (prF T n i) sd9_1 hs, arC cI m1 1170 (enc B), arC cI m2 60 T, arC cI m3 8 h]) := hD
            exact ih  (prP T n i + 1) (cod T n i) (prF T n i) sd9_1 trivial (semi_y hp3 (b1_t c31)).1 (semi_y hp3 (b1_t c31)).2 (by omega) _ _ _ hP hD hS (lv_sub hl [0] rfl)
          · skip
            refine lv_iconst (v := 0) hx hb dX7_isWork_34 (by decide) ?_
            have eZ : nI (tkp T n (prP T n i) 59) = nI (epl T n) := by first | exact congrArg nI (epl_at hp1 (pe_ne hp3).1 (fun q => absurd q (by omega))).symm | exact ((congrArg nI (tkp_n (b1_z c31))).trans (congrArg nI (epl_at hp1 (pe_ne hp3).1 (semi_n hp3 (b1_z c31))).symm)) | exact congrArg nI (epl_at hp1 (by omega) hp3).symm
            obtain ⟨hP, hD⟩ := PD_re (wn := List.flatten [mdO m0 m1 m2 m3 th sv kp (nI n) (nI (epl T n)) (cod T n i) (prF T n i) sd9_1 hs, arC cI m1 1170 (enc B), arC cI m2 60 T, arC cI m3 8 h]) (by rw [eZ]) hP hD
            refine hend (cod T n i, prF T n i, sd9_1) _ _ _ _ _ trivial ?_ hP hD hS dX7_isWork_35
            exact (if_neg (by rw [rd_end0 (Nat.lt_of_le_of_ne hp1 c20) (semi_n hp3 (b1_z c31) (Nat.lt_of_le_of_ne hp1 c20))]; decide)).symm
        · skip
          refine lv_iconst (v := 1) hx hb dX7_isWork_23 (by decide) ?_
          have eZ : nI (prP T n i) = nI (epl T n) := by first | exact congrArg nI (epl_at hp1 (pe_ne hp3).1 (fun q => absurd q (by omega))).symm | exact ((congrArg nI (tkp_n (b1_z c31))).trans (congrArg nI (epl_at hp1 (pe_ne hp3).1 (semi_n hp3 (b1_z c31))).symm)) | exact congrArg nI (epl_at hp1 (by omega) hp3).symm
          obtain ⟨hP, hD⟩ := PD_re (wn := List.flatten [mdO m0 m1 m2 m3 th sv kp (nI n) (nI (epl T n)) (cod T n i) (prF T n i) sd9_1 hs, arC cI m1 1170 (enc B), arC cI m2 60 T, arC cI m3 8 h]) (by rw [eZ]) hP hD
          refine hend (cod T n i, prF T n i, sd9_1) _ _ _ _ _ trivial ?_ hP hD hS dX7_isWork_24
          exact (if_pos (by rw [← c20]; exact (pe_ne hp3).2)).symm
  have hP : va_P D vwCl (List.flatten [mdO m0 m1 m2 m3 th sv kp (nI n) (nI 0) lt fi sd hs, arC cI m1 1170 (enc B), arC cI m2 60 T, arC cI m3 8 h]) _ := hP
  have hD : va_D A (List.flatten [mdO m0 m1 m2 m3 th sv kp (nI n) (nI 0) lt fi sd hs, arC cI m1 1170 (enc B), arC cI m2 60 T, arC cI m3 8 h]) := hD
  exact lp_5 (n - 0 + 1) 0 lt fi sd trivial (by omega) rfl (Nat.lt_succ_self _) _ _ _ hP hD hS (lv_sub hl [0] rfl)

set_option maxHeartbeats 4000000 in
set_option maxRecDepth 100000 in
theorem c_X7_firstError (l : Launch) (D : va_G) (cI cZ cS cJ : ClassId) (m0 : Nat) (m1 : Nat) (m2 : Nat) (m3 : Nat) (th : Int32) (sv : Int32) (kp : Int32) (ca : Int32) (lt : Int32) (fi : Int32) (sd : Int32) (hs : Int64) (B : Nat → Nat → Nat → Int32) (T : Nat → Int32) (h : Nat → Int32) (n : Nat) (hn60 : n ≤ 60) : CE (U := (Int32) × (Int32) × (Int32)) l yX7_firstError wsX7_firstError ({ frames := 5, cells := 0, slots := 0, locals := 107 }) D (tyL cI cZ cS cJ) [.ref m0] (List.flatten [mdO m0 m1 m2 m3 th sv kp (nI n) ca lt fi sd hs, arC cI m1 1170 (enc B), arC cI m2 60 T, arC cI m3 8 h]) (fun u => True) (fun u => some (.int (nI (epl T n)))) (fun u => List.flatten [mdO m0 m1 m2 m3 0 sv kp (nI n) (nI (epl T n)) u.1 u.2.1 u.2.2 hs, arC cI m1 1170 (enc B), arC cI m2 60 T, arC cI m3 8 h]) 0 0 := by
  refine CE_int (cc := cX7_firstError) (maxL := 1) (rt := .int) (by decide) rfl (Nat.le_of_ble_eq_true rfl) (fun _ _ => rfl) ?_
  intro p e s m below meth c A ls Q X hK hP hD hS hA hl hend
  have X : CallFix p m c cX7_firstError 1 s ([.ref m0] : List Value).toArray wsX7_firstError RX7 := X
  obtain ⟨hx, hb, hml, hown, hts⟩ := id X
  have hl : lv_has ls 1 [(0, .ref m0)] := hl
  have hinX7 : ∀ w ∈ u_ws RX7 TX7 12, w ∈ wsX7_firstError := by decide +kernel
  refine lv_aload_n hx hb dX7_firstError_0 rfl (lv_at hl 0 rfl) ?_
  refine lv_iconst (v := 0) hx hb dX7_firstError_1 (by decide) ?_
  refine va_put (D := D) (ci := 7) (v := .int 0) (ty := .int) (C := RX7) (T := TX7) (N := 12) hx hb hts hinX7 tyX7 tyX7_ok nmX7 hown hK hP hD hS 0 rfl rfl 0 (by decide) (hts (.fieldLink RX7 19 "RibbonBalloonsModel" "thrown" "I") (by decide +kernel)) (fun _ h9 => h9) rfl (by decide +kernel) rfl rfl (Nat.le_of_ble_eq_true rfl) dX7_firstError_2 (fun H locs hP hD hS => ?_)
  have hP : va_P D vwCl (List.flatten [mdO m0 m1 m2 m3 0 sv kp (nI n) ca lt fi sd hs, arC cI m1 1170 (enc B), arC cI m2 60 T, arC cI m3 8 h]) _ := hP
  have hD : va_D A (List.flatten [mdO m0 m1 m2 m3 0 sv kp (nI n) ca lt fi sd hs, arC cI m1 1170 (enc B), arC cI m2 60 T, arC cI m3 8 h]) := hD
  refine lv_aload_n hx hb dX7_firstError_5 rfl (lv_at hl 0 rfl) ?_
  refine kcallVE (As := []) (rest := []) (Wn := fun u => [mdO m0 m1 m2 m3 0 sv kp (nI n) (nI (epl T n)) u.1 u.2.1 u.2.2 hs, arC cI m1 1170 (enc B), arC cI m2 60 T, arC cI m3 8 h]) X (c_X7_isWork l D cI cZ cS cJ m0 m1 m2 m3 0 sv kp ca lt fi sd hs B T h n (by omega)) (cwV 0 hts gX7_firstError_X7_isWork rfl rfl rfl (by decide +kernel) ⟨Nat.le_of_ble_eq_true rfl, Nat.le_of_ble_eq_true rfl⟩) hK hP hD hS hA [0, 1, 2, 3] rfl (by decide +kernel) (fun _ => rfl) (fun _ => rfl) (fun _ => rfl) 0 7 rfl rfl rfl hl.1 rfl (Nat.le_of_ble_eq_true rfl) dX7_firstError_6 ⟨Nat.le_of_ble_eq_true rfl, Nat.le_of_ble_eq_true rfl⟩ (fun uu H locs hu hP hD hS => ?_)
  obtain ⟨lt9_1, fi9_1, sd9_1⟩ := uu
  have hP : va_P D vwCl (List.flatten [mdO m0 m1 m2 m3 0 sv kp (nI n) (nI (epl T n)) lt9_1 fi9_1 sd9_1 hs, arC cI m1 1170 (enc B), arC cI m2 60 T, arC cI m3 8 h]) _ := hP
  have hD : va_D A (List.flatten [mdO m0 m1 m2 m3 0 sv kp (nI n) (nI (epl T n)) lt9_1 fi9_1 sd9_1 hs, arC cI m1 1170 (enc B), arC cI m2 60 T, arC cI m3 8 h]) := hD
  refine lv_pop hx hb dX7_firstError_9 rfl ?_
  refine lv_aload_n hx hb dX7_firstError_10 rfl (lv_at hl 0 rfl) ?_
  refine va_get (D := D) (ci := 7) (v := .int (nI (epl T n))) (C := RX7) (T := TX7) (N := 12) hx hb hts hinX7 hown hK hP 0 rfl rfl 6 (by decide) (hts (.fieldLink RX7 155 "RibbonBalloonsModel" "at" "I") (by decide +kernel)) (fun _ h9 => h9) rfl dX7_firstError_11 ?_
  refine hend (lt9_1, fi9_1, sd9_1) _ _ _ _ _ trivial ?_ hP hD hS dX7_firstError_14
  exact rfl

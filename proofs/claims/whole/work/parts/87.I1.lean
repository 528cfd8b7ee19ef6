set_option maxHeartbeats 4000000 in
set_option maxRecDepth 100000 in
theorem c_X3_init (l : Launch) (D : va_G) (cI cZ cS cJ : ClassId) (n0 : Nat)  : CE (U := (Nat) × (Nat) × (Nat)) l yX3_init wsX3_init ({ frames := 1, cells := 3, slots := 60, locals := 12 }) D (tyL cI cZ cS cJ) [.ref n0] (List.flatten [obC n0 3 [.null, .null, .null, .int 0]]) (fun u => True) (fun u => none) (fun u => List.flatten [ntX cI n0 u.1 u.2.1 u.2.2 (fun _ => 0) (fun _ => 0) (fun _ => 0) 0]) 3 60 := by
  refine CE_void (cc := cX3_init) (maxL := 1) (by decide) rfl (Nat.le_of_ble_eq_true rfl) ?_
  intro p e s m below meth c A ls Q X hnm hK hP hD hS hA hl hend
  have X : CallFix p m c cX3_init 1 s ([.ref n0] : List Value).toArray wsX3_init RX3 := X
  obtain ⟨hx, hb, hml, hown, hts⟩ := id X
  have hl : lv_has ls 1 [(0, .ref n0)] := hl
  have hinX3 : ∀ w ∈ u_ws RX3 TX3 4, w ∈ wsX3_init := by decide +kernel
  refine lv_aload_n hx hb dX3_init_0 rfl (lv_at hl 0 rfl) ?_
  refine W.objInit hx hb hown (hts (.methodLink RX3 3 objectInit) (by decide +kernel)) (hts (.instanceMethod objectInit) (by decide +kernel)) (hts (.code objectInit ⟨#[0xb1]⟩ 1 none) (by decide +kernel)) rfl (by rw [hml]; exact hl.1) rfl dX3_init_1 (Nat.le_of_ble_eq_true rfl) (Nat.le_of_ble_eq_true rfl) ?_
  refine W.eq (g2 := F0 m 4 ls []) rfl ?_
  refine lv_aload_n hx hb dX3_init_4 rfl (lv_at hl 0 rfl) ?_
  refine lv_bipush (v := 20) hx hb dX3_init_5 (by decide) ?_
  refine r_newI (N := 20) hx hb (hts (.arrayClass .int) (by decide +kernel)) hK hP hD hS hA (by decide) (by decide) (by decide) (Nat.le_of_ble_eq_true rfl) (Nat.le_of_ble_eq_true rfl) dX3_init_7 (fun n1 H hP hD hS => ?_)
  have hP : va_P D vwCl (List.flatten [obC n0 3 [.null, .null, .null, .int 0], arC cI n1 20 (fun _ => 0)]) _ := hP
  have hD : va_D A (List.flatten [obC n0 3 [.null, .null, .null, .int 0], arC cI n1 20 (fun _ => 0)]) := hD
  refine va_putF (D := D) (ci := 3) (v := .ref n1) (ty := (.array .int)) (C := RX3) (T := TX3) (N := 4) hx hb hts hinX3 tyX3 tyX3_ok nmX3 hown hK hP hD hS 0 rfl rfl 0 (by decide) (hts (.fieldLink RX3 9 "RibbonBalloons$Notes" "balloons" "[I") (by decide +kernel)) (fun _ h9 => h9) rfl hnm rfl (by decide +kernel) rfl rfl (Nat.le_of_ble_eq_true rfl) dX3_init_9 (fun H locs hP hD hS => ?_)
  have hP : va_P D vwCl (List.flatten [obC n0 3 [.ref n1, .null, .null, .int 0], arC cI n1 20 (fun _ => 0)]) _ := hP
  have hD : va_D A (List.flatten [obC n0 3 [.ref n1, .null, .null, .int 0], arC cI n1 20 (fun _ => 0)]) := hD
  refine lv_aload_n hx hb dX3_init_12 rfl (lv_at hl 0 rfl) ?_
  refine lv_bipush (v := 20) hx hb dX3_init_13 (by decide) ?_
  refine r_newI (N := 20) hx hb (hts (.arrayClass .int) (by decide +kernel)) hK hP hD hS hA (by decide) (by decide) (by decide) (Nat.le_of_ble_eq_true rfl) (Nat.le_of_ble_eq_true rfl) dX3_init_15 (fun n2 H hP hD hS => ?_)
  have hP : va_P D vwCl (List.flatten [obC n0 3 [.ref n1, .null, .null, .int 0], arC cI n1 20 (fun _ => 0), arC cI n2 20 (fun _ => 0)]) _ := hP
  have hD : va_D A (List.flatten [obC n0 3 [.ref n1, .null, .null, .int 0], arC cI n1 20 (fun _ => 0), arC cI n2 20 (fun _ => 0)]) := hD
  refine va_putF (D := D) (ci := 3) (v := .ref n2) (ty := (.array .int)) (C := RX3) (T := TX3) (N := 4) hx hb hts hinX3 tyX3 tyX3_ok nmX3 hown hK hP hD hS 0 rfl rfl 1 (by decide) (hts (.fieldLink RX3 15 "RibbonBalloons$Notes" "hours" "[I") (by decide +kernel)) (fun _ h9 => h9) rfl hnm rfl (by decide +kernel) rfl rfl (Nat.le_of_ble_eq_true rfl) dX3_init_17 (fun H locs hP hD hS => ?_)
  have hP : va_P D vwCl (List.flatten [obC n0 3 [.ref n1, .ref n2, .null, .int 0], arC cI n1 20 (fun _ => 0), arC cI n2 20 (fun _ => 0)]) _ := hP
  have hD : va_D A (List.flatten [obC n0 3 [.ref n1, .ref n2, .null, .int 0], arC cI n1 20 (fun _ => 0), arC cI n2 20 (fun _ => 0)]) := hD
  refine lv_aload_n hx hb dX3_init_20 rfl (lv_at hl 0 rfl) ?_
  refine lv_bipush (v := 20) hx hb dX3_init_21 (by decide) ?_
  refine r_newI (N := 20) hx hb (hts (.arrayClass .int) (by decide +kernel)) hK hP hD hS hA (by decide) (by decide) (by decide) (Nat.le_of_ble_eq_true rfl) (Nat.le_of_ble_eq_true rfl) dX3_init_23 (fun n3 H hP hD hS => ?_)
  have hP : va_P D vwCl (List.flatten [obC n0 3 [.ref n1, .ref n2, .null, .int 0], arC cI n1 20 (fun _ => 0), arC cI n2 20 (fun _ => 0), arC cI n3 20 (fun _ => 0)]) _ := hP
  have hD : va_D A (List.flatten [obC n0 3 [.ref n1, .ref n2, .null, .int 0], arC cI n1 20 (fun _ => 0), arC cI n2 20 (fun _ => 0), arC cI n3 20 (fun _ => 0)]) := hD
  refine va_putF (D := D) (ci := 3) (v := .ref n3) (ty := (.array .int)) (C := RX3) (T := TX3) (N := 4) hx hb hts hinX3 tyX3 tyX3_ok nmX3 hown hK hP hD hS 0 rfl rfl 2 (by decide) (hts (.fieldLink RX3 18 "RibbonBalloons$Notes" "tellings" "[I") (by decide +kernel)) (fun _ h9 => h9) rfl hnm rfl (by decide +kernel) rfl rfl (Nat.le_of_ble_eq_true rfl) dX3_init_25 (fun H locs hP hD hS => ?_)
  have hP : va_P D vwCl (List.flatten [obC n0 3 [.ref n1, .ref n2, .ref n3, .int 0], arC cI n1 20 (fun _ => 0), arC cI n2 20 (fun _ => 0), arC cI n3 20 (fun _ => 0)]) _ := hP
  have hD : va_D A (List.flatten [obC n0 3 [.ref n1, .ref n2, .ref n3, .int 0], arC cI n1 20 (fun _ => 0), arC cI n2 20 (fun _ => 0), arC cI n3 20 (fun _ => 0)]) := hD
  refine lv_aload_n hx hb dX3_init_28 rfl (lv_at hl 0 rfl) ?_
  refine lv_iconst (v := 0) hx hb dX3_init_29 (by decide) ?_
  refine va_put (D := D) (ci := 3) (v := .int 0) (ty := .int) (C := RX3) (T := TX3) (N := 4) hx hb hts hinX3 tyX3 tyX3_ok nmX3 hown hK hP hD hS 0 rfl rfl 3 (by decide) (hts (.fieldLink RX3 21 "RibbonBalloons$Notes" "size" "I") (by decide +kernel)) (fun _ h9 => h9) rfl (by decide +kernel) rfl rfl (Nat.le_of_ble_eq_true rfl) dX3_init_30 (fun H locs hP hD hS => ?_)
  have hP : va_P D vwCl (List.flatten [obC n0 3 [.ref n1, .ref n2, .ref n3, .int 0], arC cI n1 20 (fun _ => 0), arC cI n2 20 (fun _ => 0), arC cI n3 20 (fun _ => 0)]) _ := hP
  have hD : va_D A (List.flatten [obC n0 3 [.ref n1, .ref n2, .ref n3, .int 0], arC cI n1 20 (fun _ => 0), arC cI n2 20 (fun _ => 0), arC cI n3 20 (fun _ => 0)]) := hD
  have hP : va_P D vwCl (List.flatten [ntX cI n0 n1 n2 n3 (fun _ => 0) (fun _ => 0) (fun _ => 0) 0]) _ := hP
  have hD : va_D A (List.flatten [ntX cI n0 n1 n2 n3 (fun _ => 0) (fun _ => 0) (fun _ => 0) 0]) := hD
  exact hend (n1, n2, n3) _ _ _ _ trivial hP hD hS dX3_init_33

set_option maxHeartbeats 4000000 in
set_option maxRecDepth 100000 in
theorem c_X5_init (l : Launch) (D : va_G) (cI cZ cS cJ : ClassId) (t0 : Nat)  : CE (U := (Nat)) l yX5_init wsX5_init ({ frames := 1, cells := 1, slots := 60, locals := 12 }) D (tyL cI cZ cS cJ) [.ref t0] (List.flatten [obC t0 5 [.null, .int 0]]) (fun u => True) (fun u => none) (fun u => List.flatten [txC cI t0 u (fun _ => 0) 0]) 1 60 := by
  refine CE_void (cc := cX5_init) (maxL := 1) (by decide) rfl (Nat.le_of_ble_eq_true rfl) ?_
  intro p e s m below meth c A ls Q X hnm hK hP hD hS hA hl hend
  have X : CallFix p m c cX5_init 1 s ([.ref t0] : List Value).toArray wsX5_init RX5 := X
  obtain ⟨hx, hb, hml, hown, hts⟩ := id X
  have hl : lv_has ls 1 [(0, .ref t0)] := hl
  have hinX5 : ∀ w ∈ u_ws RX5 TX5 2, w ∈ wsX5_init := by decide +kernel
  refine lv_aload_n hx hb dX5_init_0 rfl (lv_at hl 0 rfl) ?_
  refine W.objInit hx hb hown (hts (.methodLink RX5 3 objectInit) (by decide +kernel)) (hts (.instanceMethod objectInit) (by decide +kernel)) (hts (.code objectInit ⟨#[0xb1]⟩ 1 none) (by decide +kernel)) rfl (by rw [hml]; exact hl.1) rfl dX5_init_1 (Nat.le_of_ble_eq_true rfl) (Nat.le_of_ble_eq_true rfl) ?_
  refine W.eq (g2 := F0 m 4 ls []) rfl ?_
  refine lv_aload_n hx hb dX5_init_4 rfl (lv_at hl 0 rfl) ?_
  refine lv_bipush (v := 60) hx hb dX5_init_5 (by decide) ?_
  refine r_newI (N := 60) hx hb (hts (.arrayClass .int) (by decide +kernel)) hK hP hD hS hA (by decide) (by decide) (by decide) (Nat.le_of_ble_eq_true rfl) (Nat.le_of_ble_eq_true rfl) dX5_init_7 (fun t1 H hP hD hS => ?_)
  have hP : va_P D vwCl (List.flatten [obC t0 5 [.null, .int 0], arC cI t1 60 (fun _ => 0)]) _ := hP
  have hD : va_D A (List.flatten [obC t0 5 [.null, .int 0], arC cI t1 60 (fun _ => 0)]) := hD
  refine va_putF (D := D) (ci := 5) (v := .ref t1) (ty := (.array .int)) (C := RX5) (T := TX5) (N := 2) hx hb hts hinX5 tyX5 tyX5_ok nmX5 hown hK hP hD hS 0 rfl rfl 0 (by decide) (hts (.fieldLink RX5 9 "RibbonBalloons$Text" "codes" "[I") (by decide +kernel)) (fun _ h9 => h9) rfl hnm rfl (by decide +kernel) rfl rfl (Nat.le_of_ble_eq_true rfl) dX5_init_9 (fun H locs hP hD hS => ?_)
  have hP : va_P D vwCl (List.flatten [obC t0 5 [.ref t1, .int 0], arC cI t1 60 (fun _ => 0)]) _ := hP
  have hD : va_D A (List.flatten [obC t0 5 [.ref t1, .int 0], arC cI t1 60 (fun _ => 0)]) := hD
  refine lv_aload_n hx hb dX5_init_12 rfl (lv_at hl 0 rfl) ?_
  refine lv_iconst (v := 0) hx hb dX5_init_13 (by decide) ?_
  refine va_put (D := D) (ci := 5) (v := .int 0) (ty := .int) (C := RX5) (T := TX5) (N := 2) hx hb hts hinX5 tyX5 tyX5_ok nmX5 hown hK hP hD hS 0 rfl rfl 1 (by decide) (hts (.fieldLink RX5 15 "RibbonBalloons$Text" "length" "I") (by decide +kernel)) (fun _ h9 => h9) rfl (by decide +kernel) rfl rfl (Nat.le_of_ble_eq_true rfl) dX5_init_14 (fun H locs hP hD hS => ?_)
  have hP : va_P D vwCl (List.flatten [obC t0 5 [.ref t1, .int 0], arC cI t1 60 (fun _ => 0)]) _ := hP
  have hD : va_D A (List.flatten [obC t0 5 [.ref t1, .int 0], arC cI t1 60 (fun _ => 0)]) := hD
  have hP : va_P D vwCl (List.flatten [txC cI t0 t1 (fun _ => 0) 0]) _ := hP
  have hD : va_D A (List.flatten [txC cI t0 t1 (fun _ => 0) 0]) := hD
  exact hend (t1) _ _ _ _ trivial hP hD hS dX5_init_17

set_option maxHeartbeats 4000000 in
set_option maxRecDepth 100000 in
theorem c_X7_init (l : Launch) (D : va_G) (cI cZ cS cJ : ClassId) (m0 : Nat)  : CE (U := (Nat) × (Nat) × (Nat)) l yX7_init wsX7_init ({ frames := 1, cells := 3, slots := 1238, locals := 12 }) D (tyL cI cZ cS cJ) [.ref m0] (List.flatten [obC m0 7 [.int 0, .null, .int 0, .int 0, .null, .int 0, .int 0, .int 0, .int 0, .int 0, .null, .long 0]]) (fun u => True) (fun u => none) (fun u => List.flatten [mdO m0 u.1 u.2.1 u.2.2 0 0 0 0 0 0 0 0 0, arC cI u.1 1170 (enc init7), arC cI u.2.1 60 (fun _ => 0), arC cI u.2.2 8 (fun _ => 0)]) 3 1238 := by
  refine CE_void (cc := cX7_init) (maxL := 2) (by decide) rfl (Nat.le_of_ble_eq_true rfl) ?_
  intro p e s m below meth c A ls Q X hnm hK hP hD hS hA hl hend
  have X : CallFix p m c cX7_init 2 s ([.ref m0] : List Value).toArray wsX7_init RX7 := X
  obtain ⟨hx, hb, hml, hown, hts⟩ := id X
  have hl : lv_has ls 2 [(0, .ref m0)] := hl
  have hinX7 : ∀ w ∈ u_ws RX7 TX7 12, w ∈ wsX7_init := by decide +kernel
  refine lv_aload_n hx hb dX7_init_0 rfl (lv_at hl 0 rfl) ?_
  refine W.objInit hx hb hown (hts (.methodLink RX7 1 objectInit) (by decide +kernel)) (hts (.instanceMethod objectInit) (by decide +kernel)) (hts (.code objectInit ⟨#[0xb1]⟩ 1 none) (by decide +kernel)) rfl (by rw [hml]; exact hl.1) rfl dX7_init_1 (Nat.le_of_ble_eq_true rfl) (Nat.le_of_ble_eq_true rfl) ?_
  refine W.eq (g2 := F0 m 4 ls []) rfl ?_
  refine lv_aload_n hx hb dX7_init_4 rfl (lv_at hl 0 rfl) ?_
  refine lv_sipush (v := 1170) hx hb dX7_init_5 (by decide) ?_
  refine r_newI (N := 1170) hx hb (hts (.arrayClass .int) (by decide +kernel)) hK hP hD hS hA (by decide) (by decide) (by decide) (Nat.le_of_ble_eq_true rfl) (Nat.le_of_ble_eq_true rfl) dX7_init_8 (fun m1 H hP hD hS => ?_)
  have hP : va_P D vwCl (List.flatten [obC m0 7 [.int 0, .null, .int 0, .int 0, .null, .int 0, .int 0, .int 0, .int 0, .int 0, .null, .long 0], arC cI m1 1170 (fun _ => 0)]) _ := hP
  have hD : va_D A (List.flatten [obC m0 7 [.int 0, .null, .int 0, .int 0, .null, .int 0, .int 0, .int 0, .int 0, .int 0, .null, .long 0], arC cI m1 1170 (fun _ => 0)]) := hD
  refine va_putF (D := D) (ci := 7) (v := .ref m1) (ty := (.array .int)) (C := RX7) (T := TX7) (N := 12) hx hb hts hinX7 tyX7 tyX7_ok nmX7 hown hK hP hD hS 0 rfl rfl 1 (by decide) (hts (.fieldLink RX7 7 "RibbonBalloonsModel" "s" "[I") (by decide +kernel)) (fun _ h9 => h9) rfl hnm rfl (by decide +kernel) rfl rfl (Nat.le_of_ble_eq_true rfl) dX7_init_10 (fun H locs hP hD hS => ?_)
  have hP : va_P D vwCl (List.flatten [obC m0 7 [.int 0, .ref m1, .int 0, .int 0, .null, .int 0, .int 0, .int 0, .int 0, .int 0, .null, .long 0], arC cI m1 1170 (fun _ => 0)]) _ := hP
  have hD : va_D A (List.flatten [obC m0 7 [.int 0, .ref m1, .int 0, .int 0, .null, .int 0, .int 0, .int 0, .int 0, .int 0, .null, .long 0], arC cI m1 1170 (fun _ => 0)]) := hD
  refine lv_aload_n hx hb dX7_init_13 rfl (lv_at hl 0 rfl) ?_
  refine lv_bipush (v := 60) hx hb dX7_init_14 (by decide) ?_
  refine r_newI (N := 60) hx hb (hts (.arrayClass .int) (by decide +kernel)) hK hP hD hS hA (by decide) (by decide) (by decide) (Nat.le_of_ble_eq_true rfl) (Nat.le_of_ble_eq_true rfl) dX7_init_16 (fun m2 H hP hD hS => ?_)
  have hP : va_P D vwCl (List.flatten [obC m0 7 [.int 0, .ref m1, .int 0, .int 0, .null, .int 0, .int 0, .int 0, .int 0, .int 0, .null, .long 0], arC cI m1 1170 (fun _ => 0), arC cI m2 60 (fun _ => 0)]) _ := hP
  have hD : va_D A (List.flatten [obC m0 7 [.int 0, .ref m1, .int 0, .int 0, .null, .int 0, .int 0, .int 0, .int 0, .int 0, .null, .long 0], arC cI m1 1170 (fun _ => 0), arC cI m2 60 (fun _ => 0)]) := hD
  refine va_putF (D := D) (ci := 7) (v := .ref m2) (ty := (.array .int)) (C := RX7) (T := TX7) (N := 12) hx hb hts hinX7 tyX7 tyX7_ok nmX7 hown hK hP hD hS 0 rfl rfl 4 (by decide) (hts (.fieldLink RX7 13 "RibbonBalloonsModel" "text" "[I") (by decide +kernel)) (fun _ h9 => h9) rfl hnm rfl (by decide +kernel) rfl rfl (Nat.le_of_ble_eq_true rfl) dX7_init_18 (fun H locs hP hD hS => ?_)
  have hP : va_P D vwCl (List.flatten [obC m0 7 [.int 0, .ref m1, .int 0, .int 0, .ref m2, .int 0, .int 0, .int 0, .int 0, .int 0, .null, .long 0], arC cI m1 1170 (fun _ => 0), arC cI m2 60 (fun _ => 0)]) _ := hP
  have hD : va_D A (List.flatten [obC m0 7 [.int 0, .ref m1, .int 0, .int 0, .ref m2, .int 0, .int 0, .int 0, .int 0, .int 0, .null, .long 0], arC cI m1 1170 (fun _ => 0), arC cI m2 60 (fun _ => 0)]) := hD
  refine lv_aload_n hx hb dX7_init_21 rfl (lv_at hl 0 rfl) ?_
  refine lv_bipush (v := 8) hx hb dX7_init_22 (by decide) ?_
  refine r_newI (N := 8) hx hb (hts (.arrayClass .int) (by decide +kernel)) hK hP hD hS hA (by decide) (by decide) (by decide) (Nat.le_of_ble_eq_true rfl) (Nat.le_of_ble_eq_true rfl) dX7_init_24 (fun m3 H hP hD hS => ?_)
  have hP : va_P D vwCl (List.flatten [obC m0 7 [.int 0, .ref m1, .int 0, .int 0, .ref m2, .int 0, .int 0, .int 0, .int 0, .int 0, .null, .long 0], arC cI m1 1170 (fun _ => 0), arC cI m2 60 (fun _ => 0), arC cI m3 8 (fun _ => 0)]) _ := hP
  have hD : va_D A (List.flatten [obC m0 7 [.int 0, .ref m1, .int 0, .int 0, .ref m2, .int 0, .int 0, .int 0, .int 0, .int 0, .null, .long 0], arC cI m1 1170 (fun _ => 0), arC cI m2 60 (fun _ => 0), arC cI m3 8 (fun _ => 0)]) := hD
  refine va_putF (D := D) (ci := 7) (v := .ref m3) (ty := (.array .int)) (C := RX7) (T := TX7) (N := 12) hx hb hts hinX7 tyX7 tyX7_ok nmX7 hown hK hP hD hS 0 rfl rfl 10 (by decide) (hts (.fieldLink RX7 16 "RibbonBalloonsModel" "heights" "[I") (by decide +kernel)) (fun _ h9 => h9) rfl hnm rfl (by decide +kernel) rfl rfl (Nat.le_of_ble_eq_true rfl) dX7_init_26 (fun H locs hP hD hS => ?_)
  have hP : va_P D vwCl (List.flatten [obC m0 7 [.int 0, .ref m1, .int 0, .int 0, .ref m2, .int 0, .int 0, .int 0, .int 0, .int 0, .ref m3, .long 0], arC cI m1 1170 (fun _ => 0), arC cI m2 60 (fun _ => 0), arC cI m3 8 (fun _ => 0)]) _ := hP
  have hD : va_D A (List.flatten [obC m0 7 [.int 0, .ref m1, .int 0, .int 0, .ref m2, .int 0, .int 0, .int 0, .int 0, .int 0, .ref m3, .long 0], arC cI m1 1170 (fun _ => 0), arC cI m2 60 (fun _ => 0), arC cI m3 8 (fun _ => 0)]) := hD
  refine lv_aload_n hx hb dX7_init_29 rfl (lv_at hl 0 rfl) ?_
  refine va_get (D := D) (ci := 7) (v := .ref m1) (C := RX7) (T := TX7) (N := 12) hx hb hts hinX7 hown hK hP 0 rfl rfl 1 (by decide) (hts (.fieldLink RX7 7 "RibbonBalloonsModel" "s" "[I") (by decide +kernel)) (fun _ h9 => h9) rfl dX7_init_30 ?_
  refine lv_bipush (v := 6) hx hb dX7_init_33 (by decide) ?_
  refine lv_sipush (v := (-1000)) hx hb dX7_init_35 (by decide) ?_
  refine r_iast hx hb hK hP hD hS 1 0 6 (f := (fun _ => 0)) (x := (-1000)) (wn := List.flatten [obC m0 7 [.int 0, .ref m1, .int 0, .int 0, .ref m2, .int 0, .int 0, .int 0, .int 0, .int 0, .ref m3, .long 0], arC cI m1 1170 (upd (fun _ => 0) 6 (-1000)), arC cI m2 60 (fun _ => 0), arC cI m3 8 (fun _ => 0)]) rfl rfl (by omega) (by omega) rfl dX7_init_38 (fun H locs hP hD hS => ?_)
  refine lv_aload_n hx hb dX7_init_39 rfl (lv_at hl 0 rfl) ?_
  refine va_get (D := D) (ci := 7) (v := .ref m1) (C := RX7) (T := TX7) (N := 12) hx hb hts hinX7 hown hK hP 0 rfl rfl 1 (by decide) (hts (.fieldLink RX7 7 "RibbonBalloonsModel" "s" "[I") (by decide +kernel)) (fun _ h9 => h9) rfl dX7_init_40 ?_
  refine lv_bipush (v := 7) hx hb dX7_init_43 (by decide) ?_
  refine lv_sipush (v := (-1000)) hx hb dX7_init_45 (by decide) ?_
  refine r_iast hx hb hK hP hD hS 1 0 7 (f := upd (fun _ => 0) 6 (-1000)) (x := (-1000)) (wn := List.flatten [obC m0 7 [.int 0, .ref m1, .int 0, .int 0, .ref m2, .int 0, .int 0, .int 0, .int 0, .int 0, .ref m3, .long 0], arC cI m1 1170 (upd (upd (fun _ => 0) 6 (-1000)) 7 (-1000)), arC cI m2 60 (fun _ => 0), arC cI m3 8 (fun _ => 0)]) rfl rfl (by omega) (by omega) rfl dX7_init_48 (fun H locs hP hD hS => ?_)
  refine lv_iconst (v := 0) hx hb dX7_init_49 (by decide) ?_
  refine lv_istore_n (lv' := [(1, .int 0), (0, .ref m0)]) hx hb dX7_init_50 rfl hl (by decide) rfl (fun ls hl => ?_)
  refine lv_iload_n hx hb dX7_init_51 rfl (lv_at hl 0 rfl) ?_
  refine lv_bipush (v := 8) hx hb dX7_init_52 (by decide) ?_
  refine lv_icmp_ge (tgt := 106) hx hb dX7_init_54 (by decide) (fun h => absurd h (by decide)) (fun _ => ?_)
  refine lv_aload_n hx hb dX7_init_57 rfl (lv_at hl 1 rfl) ?_
  refine va_get (D := D) (ci := 7) (v := .ref m1) (C := RX7) (T := TX7) (N := 12) hx hb hts hinX7 hown hK hP 0 rfl rfl 1 (by decide) (hts (.fieldLink RX7 7 "RibbonBalloonsModel" "s" "[I") (by decide +kernel)) (fun _ h9 => h9) rfl dX7_init_58 ?_
  refine lv_bipush (v := 9) hx hb dX7_init_61 (by decide) ?_
  refine lv_iconst (v := 5) hx hb dX7_init_63 (by decide) ?_
  refine lv_iload_n hx hb dX7_init_64 rfl (lv_at hl 0 rfl) ?_
  refine lv_imul hx hb dX7_init_65 ?_
  refine lv_eqi (y := 0) (by decide) ?_
  refine lv_iadd hx hb dX7_init_66 ?_
  refine lv_eqi (y := 9) (by decide) ?_
  refine lv_iconst (v := 0) hx hb dX7_init_67 (by decide) ?_
  refine lv_iadd hx hb dX7_init_68 ?_
  refine lv_eqi (y := 9) (by decide) ?_
  refine lv_bipush (v := 60) hx hb dX7_init_69 (by decide) ?_
  refine r_iast hx hb hK hP hD hS 1 0 9 (f := upd (upd (fun _ => 0) 6 (-1000)) 7 (-1000)) (x := 60) (wn := List.flatten [obC m0 7 [.int 0, .ref m1, .int 0, .int 0, .ref m2, .int 0, .int 0, .int 0, .int 0, .int 0, .ref m3, .long 0], arC cI m1 1170 (upd (upd (upd (fun _ => 0) 6 (-1000)) 7 (-1000)) 9 60), arC cI m2 60 (fun _ => 0), arC cI m3 8 (fun _ => 0)]) rfl rfl (by omega) (by omega) rfl dX7_init_71 (fun H locs hP hD hS => ?_)
  refine lv_aload_n hx hb dX7_init_72 rfl (lv_at hl 1 rfl) ?_
  refine va_get (D := D) (ci := 7) (v := .ref m1) (C := RX7) (T := TX7) (N := 12) hx hb hts hinX7 hown hK hP 0 rfl rfl 1 (by decide) (hts (.fieldLink RX7 7 "RibbonBalloonsModel" "s" "[I") (by decide +kernel)) (fun _ h9 => h9) rfl dX7_init_73 ?_
  refine lv_bipush (v := 9) hx hb dX7_init_76 (by decide) ?_
  refine lv_iconst (v := 5) hx hb dX7_init_78 (by decide) ?_
  refine lv_iload_n hx hb dX7_init_79 rfl (lv_at hl 0 rfl) ?_
  refine lv_imul hx hb dX7_init_80 ?_
  refine lv_eqi (y := 0) (by decide) ?_
  refine lv_iadd hx hb dX7_init_81 ?_
  refine lv_eqi (y := 9) (by decide) ?_
  refine lv_iconst (v := 1) hx hb dX7_init_82 (by decide) ?_
  refine lv_iadd hx hb dX7_init_83 ?_
  refine lv_eqi (y := 10) (by decide) ?_
  refine lv_iconst (v := 4) hx hb dX7_init_84 (by decide) ?_
  refine r_iast hx hb hK hP hD hS 1 0 10 (f := upd (upd (upd (fun _ => 0) 6 (-1000)) 7 (-1000)) 9 60) (x := 4) (wn := List.flatten [obC m0 7 [.int 0, .ref m1, .int 0, .int 0, .ref m2, .int 0, .int 0, .int 0, .int 0, .int 0, .ref m3, .long 0], arC cI m1 1170 (upd (upd (upd (upd (fun _ => 0) 6 (-1000)) 7 (-1000)) 9 60) 10 4), arC cI m2 60 (fun _ => 0), arC cI m3 8 (fun _ => 0)]) rfl rfl (by omega) (by omega) rfl dX7_init_85 (fun H locs hP hD hS => ?_)
  refine lv_aload_n hx hb dX7_init_86 rfl (lv_at hl 1 rfl) ?_
  refine va_get (D := D) (ci := 7) (v := .ref m1) (C := RX7) (T := TX7) (N := 12) hx hb hts hinX7 hown hK hP 0 rfl rfl 1 (by decide) (hts (.fieldLink RX7 7 "RibbonBalloonsModel" "s" "[I") (by decide +kernel)) (fun _ h9 => h9) rfl dX7_init_87 ?_
  refine lv_bipush (v := 9) hx hb dX7_init_90 (by decide) ?_
  refine lv_iconst (v := 5) hx hb dX7_init_92 (by decide) ?_
  refine lv_iload_n hx hb dX7_init_93 rfl (lv_at hl 0 rfl) ?_
  refine lv_imul hx hb dX7_init_94 ?_
  refine lv_eqi (y := 0) (by decide) ?_
  refine lv_iadd hx hb dX7_init_95 ?_
  refine lv_eqi (y := 9) (by decide) ?_
  refine lv_iconst (v := 2) hx hb dX7_init_96 (by decide) ?_
  refine lv_iadd hx hb dX7_init_97 ?_
  refine lv_eqi (y := 11) (by decide) ?_
  refine lv_iconst (v := 1) hx hb dX7_init_98 (by decide) ?_
  refine r_iast hx hb hK hP hD hS 1 0 11 (f := upd (upd (upd (upd (fun _ => 0) 6 (-1000)) 7 (-1000)) 9 60) 10 4) (x := 1) (wn := List.flatten [obC m0 7 [.int 0, .ref m1, .int 0, .int 0, .ref m2, .int 0, .int 0, .int 0, .int 0, .int 0, .ref m3, .long 0], arC cI m1 1170 (upd (upd (upd (upd (upd (fun _ => 0) 6 (-1000)) 7 (-1000)) 9 60) 10 4) 11 1), arC cI m2 60 (fun _ => 0), arC cI m3 8 (fun _ => 0)]) rfl rfl (by omega) (by omega) rfl dX7_init_99 (fun H locs hP hD hS => ?_)
  refine lv_iinc (v := 1) (lv' := [(1, .int 1), (0, .ref m0)]) hx hb dX7_init_100 hl (k := 0) rfl (by decide) (by decide) rfl (fun ls hl => ?_)
  refine lv_goto (tgt := 51) hx hb dX7_init_103 (by decide) ?_
  refine lv_iload_n hx hb dX7_init_51 rfl (lv_at hl 0 rfl) ?_
  refine lv_bipush (v := 8) hx hb dX7_init_52 (by decide) ?_
  refine lv_icmp_ge (tgt := 106) hx hb dX7_init_54 (by decide) (fun h => absurd h (by decide)) (fun _ => ?_)
  refine lv_aload_n hx hb dX7_init_57 rfl (lv_at hl 1 rfl) ?_
  refine va_get (D := D) (ci := 7) (v := .ref m1) (C := RX7) (T := TX7) (N := 12) hx hb hts hinX7 hown hK hP 0 rfl rfl 1 (by decide) (hts (.fieldLink RX7 7 "RibbonBalloonsModel" "s" "[I") (by decide +kernel)) (fun _ h9 => h9) rfl dX7_init_58 ?_
  refine lv_bipush (v := 9) hx hb dX7_init_61 (by decide) ?_
  refine lv_iconst (v := 5) hx hb dX7_init_63 (by decide) ?_
  refine lv_iload_n hx hb dX7_init_64 rfl (lv_at hl 0 rfl) ?_
  refine lv_imul hx hb dX7_init_65 ?_
  refine lv_eqi (y := 5) (by decide) ?_
  refine lv_iadd hx hb dX7_init_66 ?_
  refine lv_eqi (y := 14) (by decide) ?_
  refine lv_iconst (v := 0) hx hb dX7_init_67 (by decide) ?_
  refine lv_iadd hx hb dX7_init_68 ?_
  refine lv_eqi (y := 14) (by decide) ?_
  refine lv_bipush (v := 60) hx hb dX7_init_69 (by decide) ?_
  refine r_iast hx hb hK hP hD hS 1 0 14 (f := upd (upd (upd (upd (upd (fun _ => 0) 6 (-1000)) 7 (-1000)) 9 60) 10 4) 11 1) (x := 60) (wn := List.flatten [obC m0 7 [.int 0, .ref m1, .int 0, .int 0, .ref m2, .int 0, .int 0, .int 0, .int 0, .int 0, .ref m3, .long 0], arC cI m1 1170 (upd (upd (upd (upd (upd (upd (fun _ => 0) 6 (-1000)) 7 (-1000)) 9 60) 10 4) 11 1) 14 60), arC cI m2 60 (fun _ => 0), arC cI m3 8 (fun _ => 0)]) rfl rfl (by omega) (by omega) rfl dX7_init_71 (fun H locs hP hD hS => ?_)
  refine lv_aload_n hx hb dX7_init_72 rfl (lv_at hl 1 rfl) ?_
  refine va_get (D := D) (ci := 7) (v := .ref m1) (C := RX7) (T := TX7) (N := 12) hx hb hts hinX7 hown hK hP 0 rfl rfl 1 (by decide) (hts (.fieldLink RX7 7 "RibbonBalloonsModel" "s" "[I") (by decide +kernel)) (fun _ h9 => h9) rfl dX7_init_73 ?_
  refine lv_bipush (v := 9) hx hb dX7_init_76 (by decide) ?_
  refine lv_iconst (v := 5) hx hb dX7_init_78 (by decide) ?_
  refine lv_iload_n hx hb dX7_init_79 rfl (lv_at hl 0 rfl) ?_
  refine lv_imul hx hb dX7_init_80 ?_
  refine lv_eqi (y := 5) (by decide) ?_
  refine lv_iadd hx hb dX7_init_81 ?_
  refine lv_eqi (y := 14) (by decide) ?_
  refine lv_iconst (v := 1) hx hb dX7_init_82 (by decide) ?_
  refine lv_iadd hx hb dX7_init_83 ?_
  refine lv_eqi (y := 15) (by decide) ?_
  refine lv_iconst (v := 4) hx hb dX7_init_84 (by decide) ?_
  refine r_iast hx hb hK hP hD hS 1 0 15 (f := upd (upd (upd (upd (upd (upd (fun _ => 0) 6 (-1000)) 7 (-1000)) 9 60) 10 4) 11 1) 14 60) (x := 4) (wn := List.flatten [obC m0 7 [.int 0, .ref m1, .int 0, .int 0, .ref m2, .int 0, .int 0, .int 0, .int 0, .int 0, .ref m3, .long 0], arC cI m1 1170 (upd (upd (upd (upd (upd (upd (upd (fun _ => 0) 6 (-1000)) 7 (-1000)) 9 60) 10 4) 11 1) 14 60) 15 4), arC cI m2 60 (fun _ => 0), arC cI m3 8 (fun _ => 0)]) rfl rfl (by omega) (by omega) rfl dX7_init_85 (fun H locs hP hD hS => ?_)
  refine lv_aload_n hx hb dX7_init_86 rfl (lv_at hl 1 rfl) ?_
  refine va_get (D := D) (ci := 7) (v := .ref m1) (C := RX7) (T := TX7) (N := 12) hx hb hts hinX7 hown hK hP 0 rfl rfl 1 (by decide) (hts (.fieldLink RX7 7 "RibbonBalloonsModel" "s" "[I") (by decide +kernel)) (fun _ h9 => h9) rfl dX7_init_87 ?_
  refine lv_bipush (v := 9) hx hb dX7_init_90 (by decide) ?_
  refine lv_iconst (v := 5) hx hb dX7_init_92 (by decide) ?_
  refine lv_iload_n hx hb dX7_init_93 rfl (lv_at hl 0 rfl) ?_
  refine lv_imul hx hb dX7_init_94 ?_
  refine lv_eqi (y := 5) (by decide) ?_
  refine lv_iadd hx hb dX7_init_95 ?_
  refine lv_eqi (y := 14) (by decide) ?_
  refine lv_iconst (v := 2) hx hb dX7_init_96 (by decide) ?_
  refine lv_iadd hx hb dX7_init_97 ?_
  refine lv_eqi (y := 16) (by decide) ?_
  refine lv_iconst (v := 1) hx hb dX7_init_98 (by decide) ?_
  refine r_iast hx hb hK hP hD hS 1 0 16 (f := upd (upd (upd (upd (upd (upd (upd (fun _ => 0) 6 (-1000)) 7 (-1000)) 9 60) 10 4) 11 1) 14 60) 15 4) (x := 1) (wn := List.flatten [obC m0 7 [.int 0, .ref m1, .int 0, .int 0, .ref m2, .int 0, .int 0, .int 0, .int 0, .int 0, .ref m3, .long 0], arC cI m1 1170 (upd (upd (upd (upd (upd (upd (upd (upd (fun _ => 0) 6 (-1000)) 7 (-1000)) 9 60) 10 4) 11 1) 14 60) 15 4) 16 1), arC cI m2 60 (fun _ => 0), arC cI m3 8 (fun _ => 0)]) rfl rfl (by omega) (by omega) rfl dX7_init_99 (fun H locs hP hD hS => ?_)
  refine lv_iinc (v := 2) (lv' := [(1, .int 2), (0, .ref m0)]) hx hb dX7_init_100 hl (k := 0) rfl (by decide) (by decide) rfl (fun ls hl => ?_)
  refine lv_goto (tgt := 51) hx hb dX7_init_103 (by decide) ?_
  refine lv_iload_n hx hb dX7_init_51 rfl (lv_at hl 0 rfl) ?_
  refine lv_bipush (v := 8) hx hb dX7_init_52 (by decide) ?_
  refine lv_icmp_ge (tgt := 106) hx hb dX7_init_54 (by decide) (fun h => absurd h (by decide)) (fun _ => ?_)
  refine lv_aload_n hx hb dX7_init_57 rfl (lv_at hl 1 rfl) ?_
  refine va_get (D := D) (ci := 7) (v := .ref m1) (C := RX7) (T := TX7) (N := 12) hx hb hts hinX7 hown hK hP 0 rfl rfl 1 (by decide) (hts (.fieldLink RX7 7 "RibbonBalloonsModel" "s" "[I") (by decide +kernel)) (fun _ h9 => h9) rfl dX7_init_58 ?_
  refine lv_bipush (v := 9) hx hb dX7_init_61 (by decide) ?_
  refine lv_iconst (v := 5) hx hb dX7_init_63 (by decide) ?_
  refine lv_iload_n hx hb dX7_init_64 rfl (lv_at hl 0 rfl) ?_
  refine lv_imul hx hb dX7_init_65 ?_
  refine lv_eqi (y := 10) (by decide) ?_
  refine lv_iadd hx hb dX7_init_66 ?_
  refine lv_eqi (y := 19) (by decide) ?_
  refine lv_iconst (v := 0) hx hb dX7_init_67 (by decide) ?_
  refine lv_iadd hx hb dX7_init_68 ?_
  refine lv_eqi (y := 19) (by decide) ?_
  refine lv_bipush (v := 60) hx hb dX7_init_69 (by decide) ?_
  refine r_iast hx hb hK hP hD hS 1 0 19 (f := upd (upd (upd (upd (upd (upd (upd (upd (fun _ => 0) 6 (-1000)) 7 (-1000)) 9 60) 10 4) 11 1) 14 60) 15 4) 16 1) (x := 60) (wn := List.flatten [obC m0 7 [.int 0, .ref m1, .int 0, .int 0, .ref m2, .int 0, .int 0, .int 0, .int 0, .int 0, .ref m3, .long 0], arC cI m1 1170 (upd (upd (upd (upd (upd (upd (upd (upd (upd (fun _ => 0) 6 (-1000)) 7 (-1000)) 9 60) 10 4) 11 1) 14 60) 15 4) 16 1) 19 60), arC cI m2 60 (fun _ => 0), arC cI m3 8 (fun _ => 0)]) rfl rfl (by omega) (by omega) rfl dX7_init_71 (fun H locs hP hD hS => ?_)
  refine lv_aload_n hx hb dX7_init_72 rfl (lv_at hl 1 rfl) ?_
  refine va_get (D := D) (ci := 7) (v := .ref m1) (C := RX7) (T := TX7) (N := 12) hx hb hts hinX7 hown hK hP 0 rfl rfl 1 (by decide) (hts (.fieldLink RX7 7 "RibbonBalloonsModel" "s" "[I") (by decide +kernel)) (fun _ h9 => h9) rfl dX7_init_73 ?_
  refine lv_bipush (v := 9) hx hb dX7_init_76 (by decide) ?_
  refine lv_iconst (v := 5) hx hb dX7_init_78 (by decide) ?_
  refine lv_iload_n hx hb dX7_init_79 rfl (lv_at hl 0 rfl) ?_
  refine lv_imul hx hb dX7_init_80 ?_
  refine lv_eqi (y := 10) (by decide) ?_
  refine lv_iadd hx hb dX7_init_81 ?_
  refine lv_eqi (y := 19) (by decide) ?_
  refine lv_iconst (v := 1) hx hb dX7_init_82 (by decide) ?_
  refine lv_iadd hx hb dX7_init_83 ?_
  refine lv_eqi (y := 20) (by decide) ?_
  refine lv_iconst (v := 4) hx hb dX7_init_84 (by decide) ?_
  refine r_iast hx hb hK hP hD hS 1 0 20 (f := upd (upd (upd (upd (upd (upd (upd (upd (upd (fun _ => 0) 6 (-1000)) 7 (-1000)) 9 60) 10 4) 11 1) 14 60) 15 4) 16 1) 19 60) (x := 4) (wn := List.flatten [obC m0 7 [.int 0, .ref m1, .int 0, .int 0, .ref m2, .int 0, .int 0, .int 0, .int 0, .int 0, .ref m3, .long 0], arC cI m1 1170 (upd (upd (upd (upd (upd (upd (upd (upd (upd (upd (fun _ => 0) 6 (-1000)) 7 (-1000)) 9 60) 10 4) 11 1) 14 60) 15 4) 16 1) 19 60) 20 4), arC cI m2 60 (fun _ => 0), arC cI m3 8 (fun _ => 0)]) rfl rfl (by omega) (by omega) rfl dX7_init_85 (fun H locs hP hD hS => ?_)
  refine lv_aload_n hx hb dX7_init_86 rfl (lv_at hl 1 rfl) ?_
  refine va_get (D := D) (ci := 7) (v := .ref m1) (C := RX7) (T := TX7) (N := 12) hx hb hts hinX7 hown hK hP 0 rfl rfl 1 (by decide) (hts (.fieldLink RX7 7 "RibbonBalloonsModel" "s" "[I") (by decide +kernel)) (fun _ h9 => h9) rfl dX7_init_87 ?_
  refine lv_bipush (v := 9) hx hb dX7_init_90 (by decide) ?_
  refine lv_iconst (v := 5) hx hb dX7_init_92 (by decide) ?_
  refine lv_iload_n hx hb dX7_init_93 rfl (lv_at hl 0 rfl) ?_
  refine lv_imul hx hb dX7_init_94 ?_
  refine lv_eqi (y := 10) (by decide) ?_
  refine lv_iadd hx hb dX7_init_95 ?_
  refine lv_eqi (y := 19) (by decide) ?_
  refine lv_iconst (v := 2) hx hb dX7_init_96 (by decide) ?_
  refine lv_iadd hx hb dX7_init_97 ?_
  refine lv_eqi (y := 21) (by decide) ?_
  refine lv_iconst (v := 1) hx hb dX7_init_98 (by decide) ?_
  refine r_iast hx hb hK hP hD hS 1 0 21 (f := upd (upd (upd (upd (upd (upd (upd (upd (upd (upd (fun _ => 0) 6 (-1000)) 7 (-1000)) 9 60) 10 4) 11 1) 14 60) 15 4) 16 1) 19 60) 20 4) (x := 1) (wn := List.flatten [obC m0 7 [.int 0, .ref m1, .int 0, .int 0, .ref m2, .int 0, .int 0, .int 0, .int 0, .int 0, .ref m3, .long 0], arC cI m1 1170 (upd (upd (upd (upd (upd (upd (upd (upd (upd (upd (upd (fun _ => 0) 6 (-1000)) 7 (-1000)) 9 60) 10 4) 11 1) 14 60) 15 4) 16 1) 19 60) 20 4) 21 1), arC cI m2 60 (fun _ => 0), arC cI m3 8 (fun _ => 0)]) rfl rfl (by omega) (by omega) rfl dX7_init_99 (fun H locs hP hD hS => ?_)
  refine lv_iinc (v := 3) (lv' := [(1, .int 3), (0, .ref m0)]) hx hb dX7_init_100 hl (k := 0) rfl (by decide) (by decide) rfl (fun ls hl => ?_)
  refine lv_goto (tgt := 51) hx hb dX7_init_103 (by decide) ?_
  refine lv_iload_n hx hb dX7_init_51 rfl (lv_at hl 0 rfl) ?_
  refine lv_bipush (v := 8) hx hb dX7_init_52 (by decide) ?_
  refine lv_icmp_ge (tgt := 106) hx hb dX7_init_54 (by decide) (fun h => absurd h (by decide)) (fun _ => ?_)
  refine lv_aload_n hx hb dX7_init_57 rfl (lv_at hl 1 rfl) ?_
  refine va_get (D := D) (ci := 7) (v := .ref m1) (C := RX7) (T := TX7) (N := 12) hx hb hts hinX7 hown hK hP 0 rfl rfl 1 (by decide) (hts (.fieldLink RX7 7 "RibbonBalloonsModel" "s" "[I") (by decide +kernel)) (fun _ h9 => h9) rfl dX7_init_58 ?_
  refine lv_bipush (v := 9) hx hb dX7_init_61 (by decide) ?_
  refine lv_iconst (v := 5) hx hb dX7_init_63 (by decide) ?_
  refine lv_iload_n hx hb dX7_init_64 rfl (lv_at hl 0 rfl) ?_
  refine lv_imul hx hb dX7_init_65 ?_
  refine lv_eqi (y := 15) (by decide) ?_
  refine lv_iadd hx hb dX7_init_66 ?_
  refine lv_eqi (y := 24) (by decide) ?_
  refine lv_iconst (v := 0) hx hb dX7_init_67 (by decide) ?_
  refine lv_iadd hx hb dX7_init_68 ?_
  refine lv_eqi (y := 24) (by decide) ?_
  refine lv_bipush (v := 60) hx hb dX7_init_69 (by decide) ?_
  refine r_iast hx hb hK hP hD hS 1 0 24 (f := upd (upd (upd (upd (upd (upd (upd (upd (upd (upd (upd (fun _ => 0) 6 (-1000)) 7 (-1000)) 9 60) 10 4) 11 1) 14 60) 15 4) 16 1) 19 60) 20 4) 21 1) (x := 60) (wn := List.flatten [obC m0 7 [.int 0, .ref m1, .int 0, .int 0, .ref m2, .int 0, .int 0, .int 0, .int 0, .int 0, .ref m3, .long 0], arC cI m1 1170 (upd (upd (upd (upd (upd (upd (upd (upd (upd (upd (upd (upd (fun _ => 0) 6 (-1000)) 7 (-1000)) 9 60) 10 4) 11 1) 14 60) 15 4) 16 1) 19 60) 20 4) 21 1) 24 60), arC cI m2 60 (fun _ => 0), arC cI m3 8 (fun _ => 0)]) rfl rfl (by omega) (by omega) rfl dX7_init_71 (fun H locs hP hD hS => ?_)
  refine lv_aload_n hx hb dX7_init_72 rfl (lv_at hl 1 rfl) ?_
  refine va_get (D := D) (ci := 7) (v := .ref m1) (C := RX7) (T := TX7) (N := 12) hx hb hts hinX7 hown hK hP 0 rfl rfl 1 (by decide) (hts (.fieldLink RX7 7 "RibbonBalloonsModel" "s" "[I") (by decide +kernel)) (fun _ h9 => h9) rfl dX7_init_73 ?_
  refine lv_bipush (v := 9) hx hb dX7_init_76 (by decide) ?_
  refine lv_iconst (v := 5) hx hb dX7_init_78 (by decide) ?_
  refine lv_iload_n hx hb dX7_init_79 rfl (lv_at hl 0 rfl) ?_
  refine lv_imul hx hb dX7_init_80 ?_
  refine lv_eqi (y := 15) (by decide) ?_
  refine lv_iadd hx hb dX7_init_81 ?_
  refine lv_eqi (y := 24) (by decide) ?_
  refine lv_iconst (v := 1) hx hb dX7_init_82 (by decide) ?_
  refine lv_iadd hx hb dX7_init_83 ?_
  refine lv_eqi (y := 25) (by decide) ?_
  refine lv_iconst (v := 4) hx hb dX7_init_84 (by decide) ?_
  refine r_iast hx hb hK hP hD hS 1 0 25 (f := upd (upd (upd (upd (upd (upd (upd (upd (upd (upd (upd (upd (fun _ => 0) 6 (-1000)) 7 (-1000)) 9 60) 10 4) 11 1) 14 60) 15 4) 16 1) 19 60) 20 4) 21 1) 24 60) (x := 4) (wn := List.flatten [obC m0 7 [.int 0, .ref m1, .int 0, .int 0, .ref m2, .int 0, .int 0, .int 0, .int 0, .int 0, .ref m3, .long 0], arC cI m1 1170 (upd (upd (upd (upd (upd (upd (upd (upd (upd (upd (upd (upd (upd (fun _ => 0) 6 (-1000)) 7 (-1000)) 9 60) 10 4) 11 1) 14 60) 15 4) 16 1) 19 60) 20 4) 21 1) 24 60) 25 4), arC cI m2 60 (fun _ => 0), arC cI m3 8 (fun _ => 0)]) rfl rfl (by omega) (by omega) rfl dX7_init_85 (fun H locs hP hD hS => ?_)
  refine lv_aload_n hx hb dX7_init_86 rfl (lv_at hl 1 rfl) ?_
  refine va_get (D := D) (ci := 7) (v := .ref m1) (C := RX7) (T := TX7) (N := 12) hx hb hts hinX7 hown hK hP 0 rfl rfl 1 (by decide) (hts (.fieldLink RX7 7 "RibbonBalloonsModel" "s" "[I") (by decide +kernel)) (fun _ h9 => h9) rfl dX7_init_87 ?_
  refine lv_bipush (v := 9) hx hb dX7_init_90 (by decide) ?_
  refine lv_iconst (v := 5) hx hb dX7_init_92 (by decide) ?_
  refine lv_iload_n hx hb dX7_init_93 rfl (lv_at hl 0 rfl) ?_
  refine lv_imul hx hb dX7_init_94 ?_
  refine lv_eqi (y := 15) (by decide) ?_
  refine lv_iadd hx hb dX7_init_95 ?_
  refine lv_eqi (y := 24) (by decide) ?_
  refine lv_iconst (v := 2) hx hb dX7_init_96 (by decide) ?_
  refine lv_iadd hx hb dX7_init_97 ?_
  refine lv_eqi (y := 26) (by decide) ?_
  refine lv_iconst (v := 1) hx hb dX7_init_98 (by decide) ?_
  refine r_iast hx hb hK hP hD hS 1 0 26 (f := upd (upd (upd (upd (upd (upd (upd (upd (upd (upd (upd (upd (upd (fun _ => 0) 6 (-1000)) 7 (-1000)) 9 60) 10 4) 11 1) 14 60) 15 4) 16 1) 19 60) 20 4) 21 1) 24 60) 25 4) (x := 1) (wn := List.flatten [obC m0 7 [.int 0, .ref m1, .int 0, .int 0, .ref m2, .int 0, .int 0, .int 0, .int 0, .int 0, .ref m3, .long 0], arC cI m1 1170 (upd (upd (upd (upd (upd (upd (upd (upd (upd (upd (upd (upd (upd (upd (fun _ => 0) 6 (-1000)) 7 (-1000)) 9 60) 10 4) 11 1) 14 60) 15 4) 16 1) 19 60) 20 4) 21 1) 24 60) 25 4) 26 1), arC cI m2 60 (fun _ => 0), arC cI m3 8 (fun _ => 0)]) rfl rfl (by omega) (by omega) rfl dX7_init_99 (fun H locs hP hD hS => ?_)
  refine lv_iinc (v := 4) (lv' := [(1, .int 4), (0, .ref m0)]) hx hb dX7_init_100 hl (k := 0) rfl (by decide) (by decide) rfl (fun ls hl => ?_)
  refine lv_goto (tgt := 51) hx hb dX7_init_103 (by decide) ?_
  refine lv_iload_n hx hb dX7_init_51 rfl (lv_at hl 0 rfl) ?_
  refine lv_bipush (v := 8) hx hb dX7_init_52 (by decide) ?_
  refine lv_icmp_ge (tgt := 106) hx hb dX7_init_54 (by decide) (fun h => absurd h (by decide)) (fun _ => ?_)
  refine lv_aload_n hx hb dX7_init_57 rfl (lv_at hl 1 rfl) ?_
  refine va_get (D := D) (ci := 7) (v := .ref m1) (C := RX7) (T := TX7) (N := 12) hx hb hts hinX7 hown hK hP 0 rfl rfl 1 (by decide) (hts (.fieldLink RX7 7 "RibbonBalloonsModel" "s" "[I") (by decide +kernel)) (fun _ h9 => h9) rfl dX7_init_58 ?_
  refine lv_bipush (v := 9) hx hb dX7_init_61 (by decide) ?_
  refine lv_iconst (v := 5) hx hb dX7_init_63 (by decide) ?_
  refine lv_iload_n hx hb dX7_init_64 rfl (lv_at hl 0 rfl) ?_
  refine lv_imul hx hb dX7_init_65 ?_
  refine lv_eqi (y := 20) (by decide) ?_
  refine lv_iadd hx hb dX7_init_66 ?_
  refine lv_eqi (y := 29) (by decide) ?_
  refine lv_iconst (v := 0) hx hb dX7_init_67 (by decide) ?_
  refine lv_iadd hx hb dX7_init_68 ?_
  refine lv_eqi (y := 29) (by decide) ?_
  refine lv_bipush (v := 60) hx hb dX7_init_69 (by decide) ?_
  refine r_iast hx hb hK hP hD hS 1 0 29 (f := upd (upd (upd (upd (upd (upd (upd (upd (upd (upd (upd (upd (upd (upd (fun _ => 0) 6 (-1000)) 7 (-1000)) 9 60) 10 4) 11 1) 14 60) 15 4) 16 1) 19 60) 20 4) 21 1) 24 60) 25 4) 26 1) (x := 60) (wn := List.flatten [obC m0 7 [.int 0, .ref m1, .int 0, .int 0, .ref m2, .int 0, .int 0, .int 0, .int 0, .int 0, .ref m3, .long 0], arC cI m1 1170 (upd (upd (upd (upd (upd (upd (upd (upd (upd (upd (upd (upd (upd (upd (upd (fun _ => 0) 6 (-1000)) 7 (-1000)) 9 60) 10 4) 11 1) 14 60) 15 4) 16 1) 19 60) 20 4) 21 1) 24 60) 25 4) 26 1) 29 60), arC cI m2 60 (fun _ => 0), arC cI m3 8 (fun _ => 0)]) rfl rfl (by omega) (by omega) rfl dX7_init_71 (fun H locs hP hD hS => ?_)
  refine lv_aload_n hx hb dX7_init_72 rfl (lv_at hl 1 rfl) ?_
  refine va_get (D := D) (ci := 7) (v := .ref m1) (C := RX7) (T := TX7) (N := 12) hx hb hts hinX7 hown hK hP 0 rfl rfl 1 (by decide) (hts (.fieldLink RX7 7 "RibbonBalloonsModel" "s" "[I") (by decide +kernel)) (fun _ h9 => h9) rfl dX7_init_73 ?_
  refine lv_bipush (v := 9) hx hb dX7_init_76 (by decide) ?_
  refine lv_iconst (v := 5) hx hb dX7_init_78 (by decide) ?_
  refine lv_iload_n hx hb dX7_init_79 rfl (lv_at hl 0 rfl) ?_
  refine lv_imul hx hb dX7_init_80 ?_
  refine lv_eqi (y := 20) (by decide) ?_
  refine lv_iadd hx hb dX7_init_81 ?_
  refine lv_eqi (y := 29) (by decide) ?_
  refine lv_iconst (v := 1) hx hb dX7_init_82 (by decide) ?_
  refine lv_iadd hx hb dX7_init_83 ?_
  refine lv_eqi (y := 30) (by decide) ?_
  refine lv_iconst (v := 4) hx hb dX7_init_84 (by decide) ?_
  refine r_iast hx hb hK hP hD hS 1 0 30 (f := upd (upd (upd (upd (upd (upd (upd (upd (upd (upd (upd (upd (upd (upd (upd (fun _ => 0) 6 (-1000)) 7 (-1000)) 9 60) 10 4) 11 1) 14 60) 15 4) 16 1) 19 60) 20 4) 21 1) 24 60) 25 4) 26 1) 29 60) (x := 4) (wn := List.flatten [obC m0 7 [.int 0, .ref m1, .int 0, .int 0, .ref m2, .int 0, .int 0, .int 0, .int 0, .int 0, .ref m3, .long 0], arC cI m1 1170 (upd (upd (upd (upd (upd (upd (upd (upd (upd (upd (upd (upd (upd (upd (upd (upd (fun _ => 0) 6 (-1000)) 7 (-1000)) 9 60) 10 4) 11 1) 14 60) 15 4) 16 1) 19 60) 20 4) 21 1) 24 60) 25 4) 26 1) 29 60) 30 4), arC cI m2 60 (fun _ => 0), arC cI m3 8 (fun _ => 0)]) rfl rfl (by omega) (by omega) rfl dX7_init_85 (fun H locs hP hD hS => ?_)
  refine lv_aload_n hx hb dX7_init_86 rfl (lv_at hl 1 rfl) ?_
  refine va_get (D := D) (ci := 7) (v := .ref m1) (C := RX7) (T := TX7) (N := 12) hx hb hts hinX7 hown hK hP 0 rfl rfl 1 (by decide) (hts (.fieldLink RX7 7 "RibbonBalloonsModel" "s" "[I") (by decide +kernel)) (fun _ h9 => h9) rfl dX7_init_87 ?_
  refine lv_bipush (v := 9) hx hb dX7_init_90 (by decide) ?_
  refine lv_iconst (v := 5) hx hb dX7_init_92 (by decide) ?_
  refine lv_iload_n hx hb dX7_init_93 rfl (lv_at hl 0 rfl) ?_
  refine lv_imul hx hb dX7_init_94 ?_
  refine lv_eqi (y := 20) (by decide) ?_
  refine lv_iadd hx hb dX7_init_95 ?_
  refine lv_eqi (y := 29) (by decide) ?_
  refine lv_iconst (v := 2) hx hb dX7_init_96 (by decide) ?_
  refine lv_iadd hx hb dX7_init_97 ?_
  refine lv_eqi (y := 31) (by decide) ?_
  refine lv_iconst (v := 1) hx hb dX7_init_98 (by decide) ?_
  refine r_iast hx hb hK hP hD hS 1 0 31 (f := upd (upd (upd (upd (upd (upd (upd (upd (upd (upd (upd (upd (upd (upd (upd (upd (fun _ => 0) 6 (-1000)) 7 (-1000)) 9 60) 10 4) 11 1) 14 60) 15 4) 16 1) 19 60) 20 4) 21 1) 24 60) 25 4) 26 1) 29 60) 30 4) (x := 1) (wn := List.flatten [obC m0 7 [.int 0, .ref m1, .int 0, .int 0, .ref m2, .int 0, .int 0, .int 0, .int 0, .int 0, .ref m3, .long 0], arC cI m1 1170 (upd (upd (upd (upd (upd (upd (upd (upd (upd (upd (upd (upd (upd (upd (upd (upd (upd (fun _ => 0) 6 (-1000)) 7 (-1000)) 9 60) 10 4) 11 1) 14 60) 15 4) 16 1) 19 60) 20 4) 21 1) 24 60) 25 4) 26 1) 29 60) 30 4) 31 1), arC cI m2 60 (fun _ => 0), arC cI m3 8 (fun _ => 0)]) rfl rfl (by omega) (by omega) rfl dX7_init_99 (fun H locs hP hD hS => ?_)
  refine lv_iinc (v := 5) (lv' := [(1, .int 5), (0, .ref m0)]) hx hb dX7_init_100 hl (k := 0) rfl (by decide) (by decide) rfl (fun ls hl => ?_)
  refine lv_goto (tgt := 51) hx hb dX7_init_103 (by decide) ?_
  refine lv_iload_n hx hb dX7_init_51 rfl (lv_at hl 0 rfl) ?_
  refine lv_bipush (v := 8) hx hb dX7_init_52 (by decide) ?_
  refine lv_icmp_ge (tgt := 106) hx hb dX7_init_54 (by decide) (fun h => absurd h (by decide)) (fun _ => ?_)
  refine lv_aload_n hx hb dX7_init_57 rfl (lv_at hl 1 rfl) ?_
  refine va_get (D := D) (ci := 7) (v := .ref m1) (C := RX7) (T := TX7) (N := 12) hx hb hts hinX7 hown hK hP 0 rfl rfl 1 (by decide) (hts (.fieldLink RX7 7 "RibbonBalloonsModel" "s" "[I") (by decide +kernel)) (fun _ h9 => h9) rfl dX7_init_58 ?_
  refine lv_bipush (v := 9) hx hb dX7_init_61 (by decide) ?_
  refine lv_iconst (v := 5) hx hb dX7_init_63 (by decide) ?_
  refine lv_iload_n hx hb dX7_init_64 rfl (lv_at hl 0 rfl) ?_
  refine lv_imul hx hb dX7_init_65 ?_
  refine lv_eqi (y := 25) (by decide) ?_
  refine lv_iadd hx hb dX7_init_66 ?_
  refine lv_eqi (y := 34) (by decide) ?_
  refine lv_iconst (v := 0) hx hb dX7_init_67 (by decide) ?_
  refine lv_iadd hx hb dX7_init_68 ?_
  refine lv_eqi (y := 34) (by decide) ?_
  refine lv_bipush (v := 60) hx hb dX7_init_69 (by decide) ?_
  refine r_iast hx hb hK hP hD hS 1 0 34 (f := upd (upd (upd (upd (upd (upd (upd (upd (upd (upd (upd (upd (upd (upd (upd (upd (upd (fun _ => 0) 6 (-1000)) 7 (-1000)) 9 60) 10 4) 11 1) 14 60) 15 4) 16 1) 19 60) 20 4) 21 1) 24 60) 25 4) 26 1) 29 60) 30 4) 31 1) (x := 60) (wn := List.flatten [obC m0 7 [.int 0, .ref m1, .int 0, .int 0, .ref m2, .int 0, .int 0, .int 0, .int 0, .int 0, .ref m3, .long 0], arC cI m1 1170 (upd (upd (upd (upd (upd (upd (upd (upd (upd (upd (upd (upd (upd (upd (upd (upd (upd (upd (fun _ => 0) 6 (-1000)) 7 (-1000)) 9 60) 10 4) 11 1) 14 60) 15 4) 16 1) 19 60) 20 4) 21 1) 24 60) 25 4) 26 1) 29 60) 30 4) 31 1) 34 60), arC cI m2 60 (fun _ => 0), arC cI m3 8 (fun _ => 0)]) rfl rfl (by omega) (by omega) rfl dX7_init_71 (fun H locs hP hD hS => ?_)
  refine lv_aload_n hx hb dX7_init_72 rfl (lv_at hl 1 rfl) ?_
  refine va_get (D := D) (ci := 7) (v := .ref m1) (C := RX7) (T := TX7) (N := 12) hx hb hts hinX7 hown hK hP 0 rfl rfl 1 (by decide) (hts (.fieldLink RX7 7 "RibbonBalloonsModel" "s" "[I") (by decide +kernel)) (fun _ h9 => h9) rfl dX7_init_73 ?_
  refine lv_bipush (v := 9) hx hb dX7_init_76 (by decide) ?_
  refine lv_iconst (v := 5) hx hb dX7_init_78 (by decide) ?_
  refine lv_iload_n hx hb dX7_init_79 rfl (lv_at hl 0 rfl) ?_
  refine lv_imul hx hb dX7_init_80 ?_
  refine lv_eqi (y := 25) (by decide) ?_
  refine lv_iadd hx hb dX7_init_81 ?_
  refine lv_eqi (y := 34) (by decide) ?_
  refine lv_iconst (v := 1) hx hb dX7_init_82 (by decide) ?_
  refine lv_iadd hx hb dX7_init_83 ?_
  refine lv_eqi (y := 35) (by decide) ?_
  refine lv_iconst (v := 4) hx hb dX7_init_84 (by decide) ?_
  refine r_iast hx hb hK hP hD hS 1 0 35 (f := upd (upd (upd (upd (upd (upd (upd (upd (upd (upd (upd (upd (upd (upd (upd (upd (upd (upd (fun _ => 0) 6 (-1000)) 7 (-1000)) 9 60) 10 4) 11 1) 14 60) 15 4) 16 1) 19 60) 20 4) 21 1) 24 60) 25 4) 26 1) 29 60) 30 4) 31 1) 34 60) (x := 4) (wn := List.flatten [obC m0 7 [.int 0, .ref m1, .int 0, .int 0, .ref m2, .int 0, .int 0, .int 0, .int 0, .int 0, .ref m3, .long 0], arC cI m1 1170 (upd (upd (upd (upd (upd (upd (upd (upd (upd (upd (upd (upd (upd (upd (upd (upd (upd (upd (upd (fun _ => 0) 6 (-1000)) 7 (-1000)) 9 60) 10 4) 11 1) 14 60) 15 4) 16 1) 19 60) 20 4) 21 1) 24 60) 25 4) 26 1) 29 60) 30 4) 31 1) 34 60) 35 4), arC cI m2 60 (fun _ => 0), arC cI m3 8 (fun _ => 0)]) rfl rfl (by omega) (by omega) rfl dX7_init_85 (fun H locs hP hD hS => ?_)
  refine lv_aload_n hx hb dX7_init_86 rfl (lv_at hl 1 rfl) ?_
  refine va_get (D := D) (ci := 7) (v := .ref m1) (C := RX7) (T := TX7) (N := 12) hx hb hts hinX7 hown hK hP 0 rfl rfl 1 (by decide) (hts (.fieldLink RX7 7 "RibbonBalloonsModel" "s" "[I") (by decide +kernel)) (fun _ h9 => h9) rfl dX7_init_87 ?_
  refine lv_bipush (v := 9) hx hb dX7_init_90 (by decide) ?_
  refine lv_iconst (v := 5) hx hb dX7_init_92 (by decide) ?_
  refine lv_iload_n hx hb dX7_init_93 rfl (lv_at hl 0 rfl) ?_
  refine lv_imul hx hb dX7_init_94 ?_
  refine lv_eqi (y := 25) (by decide) ?_
  refine lv_iadd hx hb dX7_init_95 ?_
  refine lv_eqi (y := 34) (by decide) ?_
  refine lv_iconst (v := 2) hx hb dX7_init_96 (by decide) ?_
  refine lv_iadd hx hb dX7_init_97 ?_
  refine lv_eqi (y := 36) (by decide) ?_
  refine lv_iconst (v := 1) hx hb dX7_init_98 (by decide) ?_
  refine r_iast hx hb hK hP hD hS 1 0 36 (f := upd (upd (upd (upd (upd (upd (upd (upd (upd (upd (upd (upd (upd (upd (upd (upd (upd (upd (upd (fun _ => 0) 6 (-1000)) 7 (-1000)) 9 60) 10 4) 11 1) 14 60) 15 4) 16 1) 19 60) 20 4) 21 1) 24 60) 25 4) 26 1) 29 60) 30 4) 31 1) 34 60) 35 4) (x := 1) (wn := List.flatten [obC m0 7 [.int 0, .ref m1, .int 0, .int 0, .ref m2, .int 0, .int 0, .int 0, .int 0, .int 0, .ref m3, .long 0], arC cI m1 1170 (upd (upd (upd (upd (upd (upd (upd (upd (upd (upd (upd (upd (upd (upd (upd (upd (upd (upd (upd (upd (fun _ => 0) 6 (-1000)) 7 (-1000)) 9 60) 10 4) 11 1) 14 60) 15 4) 16 1) 19 60) 20 4) 21 1) 24 60) 25 4) 26 1) 29 60) 30 4) 31 1) 34 60) 35 4) 36 1), arC cI m2 60 (fun _ => 0), arC cI m3 8 (fun _ => 0)]) rfl rfl (by omega) (by omega) rfl dX7_init_99 (fun H locs hP hD hS => ?_)
  refine lv_iinc (v := 6) (lv' := [(1, .int 6), (0, .ref m0)]) hx hb dX7_init_100 hl (k := 0) rfl (by decide) (by decide) rfl (fun ls hl => ?_)
  refine lv_goto (tgt := 51) hx hb dX7_init_103 (by decide) ?_
  refine lv_iload_n hx hb dX7_init_51 rfl (lv_at hl 0 rfl) ?_
  refine lv_bipush (v := 8) hx hb dX7_init_52 (by decide) ?_
  refine lv_icmp_ge (tgt := 106) hx hb dX7_init_54 (by decide) (fun h => absurd h (by decide)) (fun _ => ?_)
  refine lv_aload_n hx hb dX7_init_57 rfl (lv_at hl 1 rfl) ?_
  refine va_get (D := D) (ci := 7) (v := .ref m1) (C := RX7) (T := TX7) (N := 12) hx hb hts hinX7 hown hK hP 0 rfl rfl 1 (by decide) (hts (.fieldLink RX7 7 "RibbonBalloonsModel" "s" "[I") (by decide +kernel)) (fun _ h9 => h9) rfl dX7_init_58 ?_
  refine lv_bipush (v := 9) hx hb dX7_init_61 (by decide) ?_
  refine lv_iconst (v := 5) hx hb dX7_init_63 (by decide) ?_
  refine lv_iload_n hx hb dX7_init_64 rfl (lv_at hl 0 rfl) ?_
  refine lv_imul hx hb dX7_init_65 ?_
  refine lv_eqi (y := 30) (by decide) ?_
  refine lv_iadd hx hb dX7_init_66 ?_
  refine lv_eqi (y := 39) (by decide) ?_
  refine lv_iconst (v := 0) hx hb dX7_init_67 (by decide) ?_
  refine lv_iadd hx hb dX7_init_68 ?_
  refine lv_eqi (y := 39) (by decide) ?_
  refine lv_bipush (v := 60) hx hb dX7_init_69 (by decide) ?_
  refine r_iast hx hb hK hP hD hS 1 0 39 (f := upd (upd (upd (upd (upd (upd (upd (upd (upd (upd (upd (upd (upd (upd (upd (upd (upd (upd (upd (upd (fun _ => 0) 6 (-1000)) 7 (-1000)) 9 60) 10 4) 11 1) 14 60) 15 4) 16 1) 19 60) 20 4) 21 1) 24 60) 25 4) 26 1) 29 60) 30 4) 31 1) 34 60) 35 4) 36 1) (x := 60) (wn := List.flatten [obC m0 7 [.int 0, .ref m1, .int 0, .int 0, .ref m2, .int 0, .int 0, .int 0, .int 0, .int 0, .ref m3, .long 0], arC cI m1 1170 (upd (upd (upd (upd (upd (upd (upd (upd (upd (upd (upd (upd (upd (upd (upd (upd (upd (upd (upd (upd (upd (fun _ => 0) 6 (-1000)) 7 (-1000)) 9 60) 10 4) 11 1) 14 60) 15 4) 16 1) 19 60) 20 4) 21 1) 24 60) 25 4) 26 1) 29 60) 30 4) 31 1) 34 60) 35 4) 36 1) 39 60), arC cI m2 60 (fun _ => 0), arC cI m3 8 (fun _ => 0)]) rfl rfl (by omega) (by omega) rfl dX7_init_71 (fun H locs hP hD hS => ?_)
  refine lv_aload_n hx hb dX7_init_72 rfl (lv_at hl 1 rfl) ?_
  refine va_get (D := D) (ci := 7) (v := .ref m1) (C := RX7) (T := TX7) (N := 12) hx hb hts hinX7 hown hK hP 0 rfl rfl 1 (by decide) (hts (.fieldLink RX7 7 "RibbonBalloonsModel" "s" "[I") (by decide +kernel)) (fun _ h9 => h9) rfl dX7_init_73 ?_
  refine lv_bipush (v := 9) hx hb dX7_init_76 (by decide) ?_
  refine lv_iconst (v := 5) hx hb dX7_init_78 (by decide) ?_
  refine lv_iload_n hx hb dX7_init_79 rfl (lv_at hl 0 rfl) ?_
  refine lv_imul hx hb dX7_init_80 ?_
  refine lv_eqi (y := 30) (by decide) ?_
  refine lv_iadd hx hb dX7_init_81 ?_
  refine lv_eqi (y := 39) (by decide) ?_
  refine lv_iconst (v := 1) hx hb dX7_init_82 (by decide) ?_
  refine lv_iadd hx hb dX7_init_83 ?_
  refine lv_eqi (y := 40) (by decide) ?_
  refine lv_iconst (v := 4) hx hb dX7_init_84 (by decide) ?_
  refine r_iast hx hb hK hP hD hS 1 0 40 (f := upd (upd (upd (upd (upd (upd (upd (upd (upd (upd (upd (upd (upd (upd (upd (upd (upd (upd (upd (upd (upd (fun _ => 0) 6 (-1000)) 7 (-1000)) 9 60) 10 4) 11 1) 14 60) 15 4) 16 1) 19 60) 20 4) 21 1) 24 60) 25 4) 26 1) 29 60) 30 4) 31 1) 34 60) 35 4) 36 1) 39 60) (x := 4) (wn := List.flatten [obC m0 7 [.int 0, .ref m1, .int 0, .int 0, .ref m2, .int 0, .int 0, .int 0, .int 0, .int 0, .ref m3, .long 0], arC cI m1 1170 (upd (upd (upd (upd (upd (upd (upd (upd (upd (upd (upd (upd (upd (upd (upd (upd (upd (upd (upd (upd (upd (upd (fun _ => 0) 6 (-1000)) 7 (-1000)) 9 60) 10 4) 11 1) 14 60) 15 4) 16 1) 19 60) 20 4) 21 1) 24 60) 25 4) 26 1) 29 60) 30 4) 31 1) 34 60) 35 4) 36 1) 39 60) 40 4), arC cI m2 60 (fun _ => 0), arC cI m3 8 (fun _ => 0)]) rfl rfl (by omega) (by omega) rfl dX7_init_85 (fun H locs hP hD hS => ?_)
  refine lv_aload_n hx hb dX7_init_86 rfl (lv_at hl 1 rfl) ?_
  refine va_get (D := D) (ci := 7) (v := .ref m1) (C := RX7) (T := TX7) (N := 12) hx hb hts hinX7 hown hK hP 0 rfl rfl 1 (by decide) (hts (.fieldLink RX7 7 "RibbonBalloonsModel" "s" "[I") (by decide +kernel)) (fun _ h9 => h9) rfl dX7_init_87 ?_
  refine lv_bipush (v := 9) hx hb dX7_init_90 (by decide) ?_
  refine lv_iconst (v := 5) hx hb dX7_init_92 (by decide) ?_
  refine lv_iload_n hx hb dX7_init_93 rfl (lv_at hl 0 rfl) ?_
  refine lv_imul hx hb dX7_init_94 ?_
  refine lv_eqi (y := 30) (by decide) ?_
  refine lv_iadd hx hb dX7_init_95 ?_
  refine lv_eqi (y := 39) (by decide) ?_
  refine lv_iconst (v := 2) hx hb dX7_init_96 (by decide) ?_
  refine lv_iadd hx hb dX7_init_97 ?_
  refine lv_eqi (y := 41) (by decide) ?_
  refine lv_iconst (v := 1) hx hb dX7_init_98 (by decide) ?_
  refine r_iast hx hb hK hP hD hS 1 0 41 (f := upd (upd (upd (upd (upd (upd (upd (upd (upd (upd (upd (upd (upd (upd (upd (upd (upd (upd (upd (upd (upd (upd (fun _ => 0) 6 (-1000)) 7 (-1000)) 9 60) 10 4) 11 1) 14 60) 15 4) 16 1) 19 60) 20 4) 21 1) 24 60) 25 4) 26 1) 29 60) 30 4) 31 1) 34 60) 35 4) 36 1) 39 60) 40 4) (x := 1) (wn := List.flatten [obC m0 7 [.int 0, .ref m1, .int 0, .int 0, .ref m2, .int 0, .int 0, .int 0, .int 0, .int 0, .ref m3, .long 0], arC cI m1 1170 (upd (upd (upd (upd (upd (upd (upd (upd (upd (upd (upd (upd (upd (upd (upd (upd (upd (upd (upd (upd (upd (upd (upd (fun _ => 0) 6 (-1000)) 7 (-1000)) 9 60) 10 4) 11 1) 14 60) 15 4) 16 1) 19 60) 20 4) 21 1) 24 60) 25 4) 26 1) 29 60) 30 4) 31 1) 34 60) 35 4) 36 1) 39 60) 40 4) 41 1), arC cI m2 60 (fun _ => 0), arC cI m3 8 (fun _ => 0)]) rfl rfl (by omega) (by omega) rfl dX7_init_99 (fun H locs hP hD hS => ?_)
  refine lv_iinc (v := 7) (lv' := [(1, .int 7), (0, .ref m0)]) hx hb dX7_init_100 hl (k := 0) rfl (by decide) (by decide) rfl (fun ls hl => ?_)
  refine lv_goto (tgt := 51) hx hb dX7_init_103 (by decide) ?_
  refine lv_iload_n hx hb dX7_init_51 rfl (lv_at hl 0 rfl) ?_
  refine lv_bipush (v := 8) hx hb dX7_init_52 (by decide) ?_
  refine lv_icmp_ge (tgt := 106) hx hb dX7_init_54 (by decide) (fun h => absurd h (by decide)) (fun _ => ?_)
  refine lv_aload_n hx hb dX7_init_57 rfl (lv_at hl 1 rfl) ?_
  refine va_get (D := D) (ci := 7) (v := .ref m1) (C := RX7) (T := TX7) (N := 12) hx hb hts hinX7 hown hK hP 0 rfl rfl 1 (by decide) (hts (.fieldLink RX7 7 "RibbonBalloonsModel" "s" "[I") (by decide +kernel)) (fun _ h9 => h9) rfl dX7_init_58 ?_
  refine lv_bipush (v := 9) hx hb dX7_init_61 (by decide) ?_
  refine lv_iconst (v := 5) hx hb dX7_init_63 (by decide) ?_
  refine lv_iload_n hx hb dX7_init_64 rfl (lv_at hl 0 rfl) ?_
  refine lv_imul hx hb dX7_init_65 ?_
  refine lv_eqi (y := 35) (by decide) ?_
  refine lv_iadd hx hb dX7_init_66 ?_
  refine lv_eqi (y := 44) (by decide) ?_
  refine lv_iconst (v := 0) hx hb dX7_init_67 (by decide) ?_
  refine lv_iadd hx hb dX7_init_68 ?_
  refine lv_eqi (y := 44) (by decide) ?_
  refine lv_bipush (v := 60) hx hb dX7_init_69 (by decide) ?_
  refine r_iast hx hb hK hP hD hS 1 0 44 (f := upd (upd (upd (upd (upd (upd (upd (upd (upd (upd (upd (upd (upd (upd (upd (upd (upd (upd (upd (upd (upd (upd (upd (fun _ => 0) 6 (-1000)) 7 (-1000)) 9 60) 10 4) 11 1) 14 60) 15 4) 16 1) 19 60) 20 4) 21 1) 24 60) 25 4) 26 1) 29 60) 30 4) 31 1) 34 60) 35 4) 36 1) 39 60) 40 4) 41 1) (x := 60) (wn := List.flatten [obC m0 7 [.int 0, .ref m1, .int 0, .int 0, .ref m2, .int 0, .int 0, .int 0, .int 0, .int 0, .ref m3, .long 0], arC cI m1 1170 (upd (upd (upd (upd (upd (upd (upd (upd (upd (upd (upd (upd (upd (upd (upd (upd (upd (upd (upd (upd (upd (upd (upd (upd (fun _ => 0) 6 (-1000)) 7 (-1000)) 9 60) 10 4) 11 1) 14 60) 15 4) 16 1) 19 60) 20 4) 21 1) 24 60) 25 4) 26 1) 29 60) 30 4) 31 1) 34 60) 35 4) 36 1) 39 60) 40 4) 41 1) 44 60), arC cI m2 60 (fun _ => 0), arC cI m3 8 (fun _ => 0)]) rfl rfl (by omega) (by omega) rfl dX7_init_71 (fun H locs hP hD hS => ?_)
  refine lv_aload_n hx hb dX7_init_72 rfl (lv_at hl 1 rfl) ?_
  refine va_get (D := D) (ci := 7) (v := .ref m1) (C := RX7) (T := TX7) (N := 12) hx hb hts hinX7 hown hK hP 0 rfl rfl 1 (by decide) (hts (.fieldLink RX7 7 "RibbonBalloonsModel" "s" "[I") (by decide +kernel)) (fun _ h9 => h9) rfl dX7_init_73 ?_
  refine lv_bipush (v := 9) hx hb dX7_init_76 (by decide) ?_
  refine lv_iconst (v := 5) hx hb dX7_init_78 (by decide) ?_
  refine lv_iload_n hx hb dX7_init_79 rfl (lv_at hl 0 rfl) ?_
  refine lv_imul hx hb dX7_init_80 ?_
  refine lv_eqi (y := 35) (by decide) ?_
  refine lv_iadd hx hb dX7_init_81 ?_
  refine lv_eqi (y := 44) (by decide) ?_
  refine lv_iconst (v := 1) hx hb dX7_init_82 (by decide) ?_
  refine lv_iadd hx hb dX7_init_83 ?_
  refine lv_eqi (y := 45) (by decide) ?_
  refine lv_iconst (v := 4) hx hb dX7_init_84 (by decide) ?_
  refine r_iast hx hb hK hP hD hS 1 0 45 (f := upd (upd (upd (upd (upd (upd (upd (upd (upd (upd (upd (upd (upd (upd (upd (upd (upd (upd (upd (upd (upd (upd (upd (upd (fun _ => 0) 6 (-1000)) 7 (-1000)) 9 60) 10 4) 11 1) 14 60) 15 4) 16 1) 19 60) 20 4) 21 1) 24 60) 25 4) 26 1) 29 60) 30 4) 31 1) 34 60) 35 4) 36 1) 39 60) 40 4) 41 1) 44 60) (x := 4) (wn := List.flatten [obC m0 7 [.int 0, .ref m1, .int 0, .int 0, .ref m2, .int 0, .int 0, .int 0, .int 0, .int 0, .ref m3, .long 0], arC cI m1 1170 (upd (upd (upd (upd (upd (upd (upd (upd (upd (upd (upd (upd (upd (upd (upd (upd (upd (upd (upd (upd (upd (upd (upd (upd (upd (fun _ => 0) 6 (-1000)) 7 (-1000)) 9 60) 10 4) 11 1) 14 60) 15 4) 16 1) 19 60) 20 4) 21 1) 24 60) 25 4) 26 1) 29 60) 30 4) 31 1) 34 60) 35 4) 36 1) 39 60) 40 4) 41 1) 44 60) 45 4), arC cI m2 60 (fun _ => 0), arC cI m3 8 (fun _ => 0)]) rfl rfl (by omega) (by omega) rfl dX7_init_85 (fun H locs hP hD hS => ?_)
  refine lv_aload_n hx hb dX7_init_86 rfl (lv_at hl 1 rfl) ?_
  refine va_get (D := D) (ci := 7) (v := .ref m1) (C := RX7) (T := TX7) (N := 12) hx hb hts hinX7 hown hK hP 0 rfl rfl 1 (by decide) (hts (.fieldLink RX7 7 "RibbonBalloonsModel" "s" "[I") (by decide +kernel)) (fun _ h9 => h9) rfl dX7_init_87 ?_
  refine lv_bipush (v := 9) hx hb dX7_init_90 (by decide) ?_
  refine lv_iconst (v := 5) hx hb dX7_init_92 (by decide) ?_
  refine lv_iload_n hx hb dX7_init_93 rfl (lv_at hl 0 rfl) ?_
  refine lv_imul hx hb dX7_init_94 ?_
  refine lv_eqi (y := 35) (by decide) ?_
  refine lv_iadd hx hb dX7_init_95 ?_
  refine lv_eqi (y := 44) (by decide) ?_
  refine lv_iconst (v := 2) hx hb dX7_init_96 (by decide) ?_
  refine lv_iadd hx hb dX7_init_97 ?_
  refine lv_eqi (y := 46) (by decide) ?_
  refine lv_iconst (v := 1) hx hb dX7_init_98 (by decide) ?_
  refine r_iast hx hb hK hP hD hS 1 0 46 (f := upd (upd (upd (upd (upd (upd (upd (upd (upd (upd (upd (upd (upd (upd (upd (upd (upd (upd (upd (upd (upd (upd (upd (upd (upd (fun _ => 0) 6 (-1000)) 7 (-1000)) 9 60) 10 4) 11 1) 14 60) 15 4) 16 1) 19 60) 20 4) 21 1) 24 60) 25 4) 26 1) 29 60) 30 4) 31 1) 34 60) 35 4) 36 1) 39 60) 40 4) 41 1) 44 60) 45 4) (x := 1) (wn := List.flatten [obC m0 7 [.int 0, .ref m1, .int 0, .int 0, .ref m2, .int 0, .int 0, .int 0, .int 0, .int 0, .ref m3, .long 0], arC cI m1 1170 (upd (upd (upd (upd (upd (upd (upd (upd (upd (upd (upd (upd (upd (upd (upd (upd (upd (upd (upd (upd (upd (upd (upd (upd (upd (upd (fun _ => 0) 6 (-1000)) 7 (-1000)) 9 60) 10 4) 11 1) 14 60) 15 4) 16 1) 19 60) 20 4) 21 1) 24 60) 25 4) 26 1) 29 60) 30 4) 31 1) 34 60) 35 4) 36 1) 39 60) 40 4) 41 1) 44 60) 45 4) 46 1), arC cI m2 60 (fun _ => 0), arC cI m3 8 (fun _ => 0)]) rfl rfl (by omega) (by omega) rfl dX7_init_99 (fun H locs hP hD hS => ?_)
  refine lv_iinc (v := 8) (lv' := [(1, .int 8), (0, .ref m0)]) hx hb dX7_init_100 hl (k := 0) rfl (by decide) (by decide) rfl (fun ls hl => ?_)
  refine lv_goto (tgt := 51) hx hb dX7_init_103 (by decide) ?_
  refine lv_iload_n hx hb dX7_init_51 rfl (lv_at hl 0 rfl) ?_
  refine lv_bipush (v := 8) hx hb dX7_init_52 (by decide) ?_
  refine lv_icmp_ge (tgt := 106) hx hb dX7_init_54 (by decide) (fun _ => ?_) (fun h => absurd (by decide) h)
  refine lv_iconst (v := 0) hx hb dX7_init_106 (by decide) ?_
  refine lv_istore_n (lv' := [(1, .int 0), (0, .ref m0)]) hx hb dX7_init_107 rfl hl (by decide) rfl (fun ls hl => ?_)
  refine lv_iload_n hx hb dX7_init_108 rfl (lv_at hl 0 rfl) ?_
  refine lv_bipush (v := 7) hx hb dX7_init_109 (by decide) ?_
  refine lv_icmp_ge (tgt := 163) hx hb dX7_init_111 (by decide) (fun h => absurd h (by decide)) (fun _ => ?_)
  refine lv_aload_n hx hb dX7_init_114 rfl (lv_at hl 1 rfl) ?_
  refine va_get (D := D) (ci := 7) (v := .ref m1) (C := RX7) (T := TX7) (N := 12) hx hb hts hinX7 hown hK hP 0 rfl rfl 1 (by decide) (hts (.fieldLink RX7 7 "RibbonBalloonsModel" "s" "[I") (by decide +kernel)) (fun _ h9 => h9) rfl dX7_init_115 ?_
  refine lv_bipush (v := 49) hx hb dX7_init_118 (by decide) ?_
  refine lv_iconst (v := 3) hx hb dX7_init_120 (by decide) ?_
  refine lv_iload_n hx hb dX7_init_121 rfl (lv_at hl 0 rfl) ?_
  refine lv_imul hx hb dX7_init_122 ?_
  refine lv_eqi (y := 0) (by decide) ?_
  refine lv_iadd hx hb dX7_init_123 ?_
  refine lv_eqi (y := 49) (by decide) ?_
  refine lv_iconst (v := 1) hx hb dX7_init_124 (by decide) ?_
  refine r_iast hx hb hK hP hD hS 1 0 49 (f := upd (upd (upd (upd (upd (upd (upd (upd (upd (upd (upd (upd (upd (upd (upd (upd (upd (upd (upd (upd (upd (upd (upd (upd (upd (upd (fun _ => 0) 6 (-1000)) 7 (-1000)) 9 60) 10 4) 11 1) 14 60) 15 4) 16 1) 19 60) 20 4) 21 1) 24 60) 25 4) 26 1) 29 60) 30 4) 31 1) 34 60) 35 4) 36 1) 39 60) 40 4) 41 1) 44 60) 45 4) 46 1) (x := 1) (wn := List.flatten [obC m0 7 [.int 0, .ref m1, .int 0, .int 0, .ref m2, .int 0, .int 0, .int 0, .int 0, .int 0, .ref m3, .long 0], arC cI m1 1170 (upd (upd (upd (upd (upd (upd (upd (upd (upd (upd (upd (upd (upd (upd (upd (upd (upd (upd (upd (upd (upd (upd (upd (upd (upd (upd (upd (fun _ => 0) 6 (-1000)) 7 (-1000)) 9 60) 10 4) 11 1) 14 60) 15 4) 16 1) 19 60) 20 4) 21 1) 24 60) 25 4) 26 1) 29 60) 30 4) 31 1) 34 60) 35 4) 36 1) 39 60) 40 4) 41 1) 44 60) 45 4) 46 1) 49 1), arC cI m2 60 (fun _ => 0), arC cI m3 8 (fun _ => 0)]) rfl rfl (by omega) (by omega) rfl dX7_init_125 (fun H locs hP hD hS => ?_)
  refine lv_aload_n hx hb dX7_init_126 rfl (lv_at hl 1 rfl) ?_
  refine va_get (D := D) (ci := 7) (v := .ref m1) (C := RX7) (T := TX7) (N := 12) hx hb hts hinX7 hown hK hP 0 rfl rfl 1 (by decide) (hts (.fieldLink RX7 7 "RibbonBalloonsModel" "s" "[I") (by decide +kernel)) (fun _ h9 => h9) rfl dX7_init_127 ?_
  refine lv_bipush (v := 49) hx hb dX7_init_130 (by decide) ?_
  refine lv_iconst (v := 3) hx hb dX7_init_132 (by decide) ?_
  refine lv_iload_n hx hb dX7_init_133 rfl (lv_at hl 0 rfl) ?_
  refine lv_imul hx hb dX7_init_134 ?_
  refine lv_eqi (y := 0) (by decide) ?_
  refine lv_iadd hx hb dX7_init_135 ?_
  refine lv_eqi (y := 49) (by decide) ?_
  refine lv_iconst (v := 1) hx hb dX7_init_136 (by decide) ?_
  refine lv_iadd hx hb dX7_init_137 ?_
  refine lv_eqi (y := 50) (by decide) ?_
  refine lv_bipush (v := 100) hx hb dX7_init_138 (by decide) ?_
  refine r_iast hx hb hK hP hD hS 1 0 50 (f := upd (upd (upd (upd (upd (upd (upd (upd (upd (upd (upd (upd (upd (upd (upd (upd (upd (upd (upd (upd (upd (upd (upd (upd (upd (upd (upd (fun _ => 0) 6 (-1000)) 7 (-1000)) 9 60) 10 4) 11 1) 14 60) 15 4) 16 1) 19 60) 20 4) 21 1) 24 60) 25 4) 26 1) 29 60) 30 4) 31 1) 34 60) 35 4) 36 1) 39 60) 40 4) 41 1) 44 60) 45 4) 46 1) 49 1) (x := 100) (wn := List.flatten [obC m0 7 [.int 0, .ref m1, .int 0, .int 0, .ref m2, .int 0, .int 0, .int 0, .int 0, .int 0, .ref m3, .long 0], arC cI m1 1170 (upd (upd (upd (upd (upd (upd (upd (upd (upd (upd (upd (upd (upd (upd (upd (upd (upd (upd (upd (upd (upd (upd (upd (upd (upd (upd (upd (upd (fun _ => 0) 6 (-1000)) 7 (-1000)) 9 60) 10 4) 11 1) 14 60) 15 4) 16 1) 19 60) 20 4) 21 1) 24 60) 25 4) 26 1) 29 60) 30 4) 31 1) 34 60) 35 4) 36 1) 39 60) 40 4) 41 1) 44 60) 45 4) 46 1) 49 1) 50 100), arC cI m2 60 (fun _ => 0), arC cI m3 8 (fun _ => 0)]) rfl rfl (by omega) (by omega) rfl dX7_init_140 (fun H locs hP hD hS => ?_)
  refine lv_aload_n hx hb dX7_init_141 rfl (lv_at hl 1 rfl) ?_
  refine va_get (D := D) (ci := 7) (v := .ref m1) (C := RX7) (T := TX7) (N := 12) hx hb hts hinX7 hown hK hP 0 rfl rfl 1 (by decide) (hts (.fieldLink RX7 7 "RibbonBalloonsModel" "s" "[I") (by decide +kernel)) (fun _ h9 => h9) rfl dX7_init_142 ?_
  refine lv_bipush (v := 49) hx hb dX7_init_145 (by decide) ?_
  refine lv_iconst (v := 3) hx hb dX7_init_147 (by decide) ?_
  refine lv_iload_n hx hb dX7_init_148 rfl (lv_at hl 0 rfl) ?_
  refine lv_imul hx hb dX7_init_149 ?_
  refine lv_eqi (y := 0) (by decide) ?_
  refine lv_iadd hx hb dX7_init_150 ?_
  refine lv_eqi (y := 49) (by decide) ?_
  refine lv_iconst (v := 2) hx hb dX7_init_151 (by decide) ?_
  refine lv_iadd hx hb dX7_init_152 ?_
  refine lv_eqi (y := 51) (by decide) ?_
  refine lv_sipush (v := 150) hx hb dX7_init_153 (by decide) ?_
  refine r_iast hx hb hK hP hD hS 1 0 51 (f := upd (upd (upd (upd (upd (upd (upd (upd (upd (upd (upd (upd (upd (upd (upd (upd (upd (upd (upd (upd (upd (upd (upd (upd (upd (upd (upd (upd (fun _ => 0) 6 (-1000)) 7 (-1000)) 9 60) 10 4) 11 1) 14 60) 15 4) 16 1) 19 60) 20 4) 21 1) 24 60) 25 4) 26 1) 29 60) 30 4) 31 1) 34 60) 35 4) 36 1) 39 60) 40 4) 41 1) 44 60) 45 4) 46 1) 49 1) 50 100) (x := 150) (wn := List.flatten [obC m0 7 [.int 0, .ref m1, .int 0, .int 0, .ref m2, .int 0, .int 0, .int 0, .int 0, .int 0, .ref m3, .long 0], arC cI m1 1170 (upd (upd (upd (upd (upd (upd (upd (upd (upd (upd (upd (upd (upd (upd (upd (upd (upd (upd (upd (upd (upd (upd (upd (upd (upd (upd (upd (upd (upd (fun _ => 0) 6 (-1000)) 7 (-1000)) 9 60) 10 4) 11 1) 14 60) 15 4) 16 1) 19 60) 20 4) 21 1) 24 60) 25 4) 26 1) 29 60) 30 4) 31 1) 34 60) 35 4) 36 1) 39 60) 40 4) 41 1) 44 60) 45 4) 46 1) 49 1) 50 100) 51 150), arC cI m2 60 (fun _ => 0), arC cI m3 8 (fun _ => 0)]) rfl rfl (by omega) (by omega) rfl dX7_init_156 (fun H locs hP hD hS => ?_)
  refine lv_iinc (v := 1) (lv' := [(1, .int 1), (0, .ref m0)]) hx hb dX7_init_157 hl (k := 0) rfl (by decide) (by decide) rfl (fun ls hl => ?_)
  refine lv_goto (tgt := 108) hx hb dX7_init_160 (by decide) ?_
  refine lv_iload_n hx hb dX7_init_108 rfl (lv_at hl 0 rfl) ?_
  refine lv_bipush (v := 7) hx hb dX7_init_109 (by decide) ?_
  refine lv_icmp_ge (tgt := 163) hx hb dX7_init_111 (by decide) (fun h => absurd h (by decide)) (fun _ => ?_)
  refine lv_aload_n hx hb dX7_init_114 rfl (lv_at hl 1 rfl) ?_
  refine va_get (D := D) (ci := 7) (v := .ref m1) (C := RX7) (T := TX7) (N := 12) hx hb hts hinX7 hown hK hP 0 rfl rfl 1 (by decide) (hts (.fieldLink RX7 7 "RibbonBalloonsModel" "s" "[I") (by decide +kernel)) (fun _ h9 => h9) rfl dX7_init_115 ?_
  refine lv_bipush (v := 49) hx hb dX7_init_118 (by decide) ?_
  refine lv_iconst (v := 3) hx hb dX7_init_120 (by decide) ?_
  refine lv_iload_n hx hb dX7_init_121 rfl (lv_at hl 0 rfl) ?_
  refine lv_imul hx hb dX7_init_122 ?_
  refine lv_eqi (y := 3) (by decide) ?_
  refine lv_iadd hx hb dX7_init_123 ?_
  refine lv_eqi (y := 52) (by decide) ?_
  refine lv_iconst (v := 1) hx hb dX7_init_124 (by decide) ?_
  refine r_iast hx hb hK hP hD hS 1 0 52 (f := upd (upd (upd (upd (upd (upd (upd (upd (upd (upd (upd (upd (upd (upd (upd (upd (upd (upd (upd (upd (upd (upd (upd (upd (upd (upd (upd (upd (upd (fun _ => 0) 6 (-1000)) 7 (-1000)) 9 60) 10 4) 11 1) 14 60) 15 4) 16 1) 19 60) 20 4) 21 1) 24 60) 25 4) 26 1) 29 60) 30 4) 31 1) 34 60) 35 4) 36 1) 39 60) 40 4) 41 1) 44 60) 45 4) 46 1) 49 1) 50 100) 51 150) (x := 1) (wn := List.flatten [obC m0 7 [.int 0, .ref m1, .int 0, .int 0, .ref m2, .int 0, .int 0, .int 0, .int 0, .int 0, .ref m3, .long 0], arC cI m1 1170 (upd (upd (upd (upd (upd (upd (upd (upd (upd (upd (upd (upd (upd (upd (upd (upd (upd (upd (upd (upd (upd (upd (upd (upd (upd (upd (upd (upd (upd (upd (fun _ => 0) 6 (-1000)) 7 (-1000)) 9 60) 10 4) 11 1) 14 60) 15 4) 16 1) 19 60) 20 4) 21 1) 24 60) 25 4) 26 1) 29 60) 30 4) 31 1) 34 60) 35 4) 36 1) 39 60) 40 4) 41 1) 44 60) 45 4) 46 1) 49 1) 50 100) 51 150) 52 1), arC cI m2 60 (fun _ => 0), arC cI m3 8 (fun _ => 0)]) rfl rfl (by omega) (by omega) rfl dX7_init_125 (fun H locs hP hD hS => ?_)
  refine lv_aload_n hx hb dX7_init_126 rfl (lv_at hl 1 rfl) ?_
  refine va_get (D := D) (ci := 7) (v := .ref m1) (C := RX7) (T := TX7) (N := 12) hx hb hts hinX7 hown hK hP 0 rfl rfl 1 (by decide) (hts (.fieldLink RX7 7 "RibbonBalloonsModel" "s" "[I") (by decide +kernel)) (fun _ h9 => h9) rfl dX7_init_127 ?_
  refine lv_bipush (v := 49) hx hb dX7_init_130 (by decide) ?_
  refine lv_iconst (v := 3) hx hb dX7_init_132 (by decide) ?_
  refine lv_iload_n hx hb dX7_init_133 rfl (lv_at hl 0 rfl) ?_
  refine lv_imul hx hb dX7_init_134 ?_
  refine lv_eqi (y := 3) (by decide) ?_
  refine lv_iadd hx hb dX7_init_135 ?_
  refine lv_eqi (y := 52) (by decide) ?_
  refine lv_iconst (v := 1) hx hb dX7_init_136 (by decide) ?_
  refine lv_iadd hx hb dX7_init_137 ?_
  refine lv_eqi (y := 53) (by decide) ?_
  refine lv_bipush (v := 100) hx hb dX7_init_138 (by decide) ?_
  refine r_iast hx hb hK hP hD hS 1 0 53 (f := upd (upd (upd (upd (upd (upd (upd (upd (upd (upd (upd (upd (upd (upd (upd (upd (upd (upd (upd (upd (upd (upd (upd (upd (upd (upd (upd (upd (upd (upd (fun _ => 0) 6 (-1000)) 7 (-1000)) 9 60) 10 4) 11 1) 14 60) 15 4) 16 1) 19 60) 20 4) 21 1) 24 60) 25 4) 26 1) 29 60) 30 4) 31 1) 34 60) 35 4) 36 1) 39 60) 40 4) 41 1) 44 60) 45 4) 46 1) 49 1) 50 100) 51 150) 52 1) (x := 100) (wn := List.flatten [obC m0 7 [.int 0, .ref m1, .int 0, .int 0, .ref m2, .int 0, .int 0, .int 0, .int 0, .int 0, .ref m3, .long 0], arC cI m1 1170 (upd (upd (upd (upd (upd (upd (upd (upd (upd (upd (upd (upd (upd (upd (upd (upd (upd (upd (upd (upd (upd (upd (upd (upd (upd (upd (upd (upd (upd (upd (upd (fun _ => 0) 6 (-1000)) 7 (-1000)) 9 60) 10 4) 11 1) 14 60) 15 4) 16 1) 19 60) 20 4) 21 1) 24 60) 25 4) 26 1) 29 60) 30 4) 31 1) 34 60) 35 4) 36 1) 39 60) 40 4) 41 1) 44 60) 45 4) 46 1) 49 1) 50 100) 51 150) 52 1) 53 100), arC cI m2 60 (fun _ => 0), arC cI m3 8 (fun _ => 0)]) rfl rfl (by omega) (by omega) rfl dX7_init_140 (fun H locs hP hD hS => ?_)
  refine lv_aload_n hx hb dX7_init_141 rfl (lv_at hl 1 rfl) ?_
  refine va_get (D := D) (ci := 7) (v := .ref m1) (C := RX7) (T := TX7) (N := 12) hx hb hts hinX7 hown hK hP 0 rfl rfl 1 (by decide) (hts (.fieldLink RX7 7 "RibbonBalloonsModel" "s" "[I") (by decide +kernel)) (fun _ h9 => h9) rfl dX7_init_142 ?_
  refine lv_bipush (v := 49) hx hb dX7_init_145 (by decide) ?_
  refine lv_iconst (v := 3) hx hb dX7_init_147 (by decide) ?_
  refine lv_iload_n hx hb dX7_init_148 rfl (lv_at hl 0 rfl) ?_
  refine lv_imul hx hb dX7_init_149 ?_
  refine lv_eqi (y := 3) (by decide) ?_
  refine lv_iadd hx hb dX7_init_150 ?_
  refine lv_eqi (y := 52) (by decide) ?_
  refine lv_iconst (v := 2) hx hb dX7_init_151 (by decide) ?_
  refine lv_iadd hx hb dX7_init_152 ?_
  refine lv_eqi (y := 54) (by decide) ?_
  refine lv_sipush (v := 150) hx hb dX7_init_153 (by decide) ?_
  refine r_iast hx hb hK hP hD hS 1 0 54 (f := upd (upd (upd (upd (upd (upd (upd (upd (upd (upd (upd (upd (upd (upd (upd (upd (upd (upd (upd (upd (upd (upd (upd (upd (upd (upd (upd (upd (upd (upd (upd (fun _ => 0) 6 (-1000)) 7 (-1000)) 9 60) 10 4) 11 1) 14 60) 15 4) 16 1) 19 60) 20 4) 21 1) 24 60) 25 4) 26 1) 29 60) 30 4) 31 1) 34 60) 35 4) 36 1) 39 60) 40 4) 41 1) 44 60) 45 4) 46 1) 49 1) 50 100) 51 150) 52 1) 53 100) (x := 150) (wn := List.flatten [obC m0 7 [.int 0, .ref m1, .int 0, .int 0, .ref m2, .int 0, .int 0, .int 0, .int 0, .int 0, .ref m3, .long 0], arC cI m1 1170 (upd (upd (upd (upd (upd (upd (upd (upd (upd (upd (upd (upd (upd (upd (upd (upd (upd (upd (upd (upd (upd (upd (upd (upd (upd (upd (upd (upd (upd (upd (upd (upd (fun _ => 0) 6 (-1000)) 7 (-1000)) 9 60) 10 4) 11 1) 14 60) 15 4) 16 1) 19 60) 20 4) 21 1) 24 60) 25 4) 26 1) 29 60) 30 4) 31 1) 34 60) 35 4) 36 1) 39 60) 40 4) 41 1) 44 60) 45 4) 46 1) 49 1) 50 100) 51 150) 52 1) 53 100) 54 150), arC cI m2 60 (fun _ => 0), arC cI m3 8 (fun _ => 0)]) rfl rfl (by omega) (by omega) rfl dX7_init_156 (fun H locs hP hD hS => ?_)
  refine lv_iinc (v := 2) (lv' := [(1, .int 2), (0, .ref m0)]) hx hb dX7_init_157 hl (k := 0) rfl (by decide) (by decide) rfl (fun ls hl => ?_)
  refine lv_goto (tgt := 108) hx hb dX7_init_160 (by decide) ?_
  refine lv_iload_n hx hb dX7_init_108 rfl (lv_at hl 0 rfl) ?_
  refine lv_bipush (v := 7) hx hb dX7_init_109 (by decide) ?_
  refine lv_icmp_ge (tgt := 163) hx hb dX7_init_111 (by decide) (fun h => absurd h (by decide)) (fun _ => ?_)
  refine lv_aload_n hx hb dX7_init_114 rfl (lv_at hl 1 rfl) ?_
  refine va_get (D := D) (ci := 7) (v := .ref m1) (C := RX7) (T := TX7) (N := 12) hx hb hts hinX7 hown hK hP 0 rfl rfl 1 (by decide) (hts (.fieldLink RX7 7 "RibbonBalloonsModel" "s" "[I") (by decide +kernel)) (fun _ h9 => h9) rfl dX7_init_115 ?_
  refine lv_bipush (v := 49) hx hb dX7_init_118 (by decide) ?_
  refine lv_iconst (v := 3) hx hb dX7_init_120 (by decide) ?_
  refine lv_iload_n hx hb dX7_init_121 rfl (lv_at hl 0 rfl) ?_
  refine lv_imul hx hb dX7_init_122 ?_
  refine lv_eqi (y := 6) (by decide) ?_
  refine lv_iadd hx hb dX7_init_123 ?_
  refine lv_eqi (y := 55) (by decide) ?_
  refine lv_iconst (v := 1) hx hb dX7_init_124 (by decide) ?_
  refine r_iast hx hb hK hP hD hS 1 0 55 (f := upd (upd (upd (upd (upd (upd (upd (upd (upd (upd (upd (upd (upd (upd (upd (upd (upd (upd (upd (upd (upd (upd (upd (upd (upd (upd (upd (upd (upd (upd (upd (upd (fun _ => 0) 6 (-1000)) 7 (-1000)) 9 60) 10 4) 11 1) 14 60) 15 4) 16 1) 19 60) 20 4) 21 1) 24 60) 25 4) 26 1) 29 60) 30 4) 31 1) 34 60) 35 4) 36 1) 39 60) 40 4) 41 1) 44 60) 45 4) 46 1) 49 1) 50 100) 51 150) 52 1) 53 100) 54 150) (x := 1) (wn := List.flatten [obC m0 7 [.int 0, .ref m1, .int 0, .int 0, .ref m2, .int 0, .int 0, .int 0, .int 0, .int 0, .ref m3, .long 0], arC cI m1 1170 (upd (upd (upd (upd (upd (upd (upd (upd (upd (upd (upd (upd (upd (upd (upd (upd (upd (upd (upd (upd (upd (upd (upd (upd (upd (upd (upd (upd (upd (upd (upd (upd (upd (fun _ => 0) 6 (-1000)) 7 (-1000)) 9 60) 10 4) 11 1) 14 60) 15 4) 16 1) 19 60) 20 4) 21 1) 24 60) 25 4) 26 1) 29 60) 30 4) 31 1) 34 60) 35 4) 36 1) 39 60) 40 4) 41 1) 44 60) 45 4) 46 1) 49 1) 50 100) 51 150) 52 1) 53 100) 54 150) 55 1), arC cI m2 60 (fun _ => 0), arC cI m3 8 (fun _ => 0)]) rfl rfl (by omega) (by omega) rfl dX7_init_125 (fun H locs hP hD hS => ?_)
  refine lv_aload_n hx hb dX7_init_126 rfl (lv_at hl 1 rfl) ?_
  refine va_get (D := D) (ci := 7) (v := .ref m1) (C := RX7) (T := TX7) (N := 12) hx hb hts hinX7 hown hK hP 0 rfl rfl 1 (by decide) (hts (.fieldLink RX7 7 "RibbonBalloonsModel" "s" "[I") (by decide +kernel)) (fun _ h9 => h9) rfl dX7_init_127 ?_
  refine lv_bipush (v := 49) hx hb dX7_init_130 (by decide) ?_
  refine lv_iconst (v := 3) hx hb dX7_init_132 (by decide) ?_
  refine lv_iload_n hx hb dX7_init_133 rfl (lv_at hl 0 rfl) ?_
  refine lv_imul hx hb dX7_init_134 ?_
  refine lv_eqi (y := 6) (by decide) ?_
  refine lv_iadd hx hb dX7_init_135 ?_
  refine lv_eqi (y := 55) (by decide) ?_
  refine lv_iconst (v := 1) hx hb dX7_init_136 (by decide) ?_
  refine lv_iadd hx hb dX7_init_137 ?_
  refine lv_eqi (y := 56) (by decide) ?_
  refine lv_bipush (v := 100) hx hb dX7_init_138 (by decide) ?_
  refine r_iast hx hb hK hP hD hS 1 0 56 (f := upd (upd (upd (upd (upd (upd (upd (upd (upd (upd (upd (upd (upd (upd (upd (upd (upd (upd (upd (upd (upd (upd (upd (upd (upd (upd (upd (upd (upd (upd (upd (upd (upd (fun _ => 0) 6 (-1000)) 7 (-1000)) 9 60) 10 4) 11 1) 14 60) 15 4) 16 1) 19 60) 20 4) 21 1) 24 60) 25 4) 26 1) 29 60) 30 4) 31 1) 34 60) 35 4) 36 1) 39 60) 40 4) 41 1) 44 60) 45 4) 46 1) 49 1) 50 100) 51 150) 52 1) 53 100) 54 150) 55 1) (x := 100) (wn := List.flatten [obC m0 7 [.int 0, .ref m1, .int 0, .int 0, .ref m2, .int 0, .int 0, .int 0, .int 0, .int 0, .ref m3, .long 0], arC cI m1 1170 (upd (upd (upd (upd (upd (upd (upd (upd (upd (upd (upd (upd (upd (upd (upd (upd (upd (upd (upd (upd (upd (upd (upd (upd (upd (upd (upd (upd (upd (upd (upd (upd (upd (upd (fun _ => 0) 6 (-1000)) 7 (-1000)) 9 60) 10 4) 11 1) 14 60) 15 4) 16 1) 19 60) 20 4) 21 1) 24 60) 25 4) 26 1) 29 60) 30 4) 31 1) 34 60) 35 4) 36 1) 39 60) 40 4) 41 1) 44 60) 45 4) 46 1) 49 1) 50 100) 51 150) 52 1) 53 100) 54 150) 55 1) 56 100), arC cI m2 60 (fun _ => 0), arC cI m3 8 (fun _ => 0)]) rfl rfl (by omega) (by omega) rfl dX7_init_140 (fun H locs hP hD hS => ?_)
  refine lv_aload_n hx hb dX7_init_141 rfl (lv_at hl 1 rfl) ?_
  refine va_get (D := D) (ci := 7) (v := .ref m1) (C := RX7) (T := TX7) (N := 12) hx hb hts hinX7 hown hK hP 0 rfl rfl 1 (by decide) (hts (.fieldLink RX7 7 "RibbonBalloonsModel" "s" "[I") (by decide +kernel)) (fun _ h9 => h9) rfl dX7_init_142 ?_
  refine lv_bipush (v := 49) hx hb dX7_init_145 (by decide) ?_
  refine lv_iconst (v := 3) hx hb dX7_init_147 (by decide) ?_
  refine lv_iload_n hx hb dX7_init_148 rfl (lv_at hl 0 rfl) ?_
  refine lv_imul hx hb dX7_init_149 ?_
  refine lv_eqi (y := 6) (by decide) ?_
  refine lv_iadd hx hb dX7_init_150 ?_
  refine lv_eqi (y := 55) (by decide) ?_
  refine lv_iconst (v := 2) hx hb dX7_init_151 (by decide) ?_
  refine lv_iadd hx hb dX7_init_152 ?_
  refine lv_eqi (y := 57) (by decide) ?_
  refine lv_sipush (v := 150) hx hb dX7_init_153 (by decide) ?_
  refine r_iast hx hb hK hP hD hS 1 0 57 (f := upd (upd (upd (upd (upd (upd (upd (upd (upd (upd (upd (upd (upd (upd (upd (upd (upd (upd (upd (upd (upd (upd (upd (upd (upd (upd (upd (upd (upd (upd (upd (upd (upd (upd (fun _ => 0) 6 (-1000)) 7 (-1000)) 9 60) 10 4) 11 1) 14 60) 15 4) 16 1) 19 60) 20 4) 21 1) 24 60) 25 4) 26 1) 29 60) 30 4) 31 1) 34 60) 35 4) 36 1) 39 60) 40 4) 41 1) 44 60) 45 4) 46 1) 49 1) 50 100) 51 150) 52 1) 53 100) 54 150) 55 1) 56 100) (x := 150) (wn := List.flatten [obC m0 7 [.int 0, .ref m1, .int 0, .int 0, .ref m2, .int 0, .int 0, .int 0, .int 0, .int 0, .ref m3, .long 0], arC cI m1 1170 (upd (upd (upd (upd (upd (upd (upd (upd (upd (upd (upd (upd (upd (upd (upd (upd (upd (upd (upd (upd (upd (upd (upd (upd (upd (upd (upd (upd (upd (upd (upd (upd (upd (upd (upd (fun _ => 0) 6 (-1000)) 7 (-1000)) 9 60) 10 4) 11 1) 14 60) 15 4) 16 1) 19 60) 20 4) 21 1) 24 60) 25 4) 26 1) 29 60) 30 4) 31 1) 34 60) 35 4) 36 1) 39 60) 40 4) 41 1) 44 60) 45 4) 46 1) 49 1) 50 100) 51 150) 52 1) 53 100) 54 150) 55 1) 56 100) 57 150), arC cI m2 60 (fun _ => 0), arC cI m3 8 (fun _ => 0)]) rfl rfl (by omega) (by omega) rfl dX7_init_156 (fun H locs hP hD hS => ?_)
  refine lv_iinc (v := 3) (lv' := [(1, .int 3), (0, .ref m0)]) hx hb dX7_init_157 hl (k := 0) rfl (by decide) (by decide) rfl (fun ls hl => ?_)
  refine lv_goto (tgt := 108) hx hb dX7_init_160 (by decide) ?_
  refine lv_iload_n hx hb dX7_init_108 rfl (lv_at hl 0 rfl) ?_
  refine lv_bipush (v := 7) hx hb dX7_init_109 (by decide) ?_
  refine lv_icmp_ge (tgt := 163) hx hb dX7_init_111 (by decide) (fun h => absurd h (by decide)) (fun _ => ?_)
  refine lv_aload_n hx hb dX7_init_114 rfl (lv_at hl 1 rfl) ?_
  refine va_get (D := D) (ci := 7) (v := .ref m1) (C := RX7) (T := TX7) (N := 12) hx hb hts hinX7 hown hK hP 0 rfl rfl 1 (by decide) (hts (.fieldLink RX7 7 "RibbonBalloonsModel" "s" "[I") (by decide +kernel)) (fun _ h9 => h9) rfl dX7_init_115 ?_
  refine lv_bipush (v := 49) hx hb dX7_init_118 (by decide) ?_
  refine lv_iconst (v := 3) hx hb dX7_init_120 (by decide) ?_
  refine lv_iload_n hx hb dX7_init_121 rfl (lv_at hl 0 rfl) ?_
  refine lv_imul hx hb dX7_init_122 ?_
  refine lv_eqi (y := 9) (by decide) ?_
  refine lv_iadd hx hb dX7_init_123 ?_
  refine lv_eqi (y := 58) (by decide) ?_
  refine lv_iconst (v := 1) hx hb dX7_init_124 (by decide) ?_
  refine r_iast hx hb hK hP hD hS 1 0 58 (f := upd (upd (upd (upd (upd (upd (upd (upd (upd (upd (upd (upd (upd (upd (upd (upd (upd (upd (upd (upd (upd (upd (upd (upd (upd (upd (upd (upd (upd (upd (upd (upd (upd (upd (upd (fun _ => 0) 6 (-1000)) 7 (-1000)) 9 60) 10 4) 11 1) 14 60) 15 4) 16 1) 19 60) 20 4) 21 1) 24 60) 25 4) 26 1) 29 60) 30 4) 31 1) 34 60) 35 4) 36 1) 39 60) 40 4) 41 1) 44 60) 45 4) 46 1) 49 1) 50 100) 51 150) 52 1) 53 100) 54 150) 55 1) 56 100) 57 150) (x := 1) (wn := List.flatten [obC m0 7 [.int 0, .ref m1, .int 0, .int 0, .ref m2, .int 0, .int 0, .int 0, .int 0, .int 0, .ref m3, .long 0], arC cI m1 1170 (upd (upd (upd (upd (upd (upd (upd (upd (upd (upd (upd (upd (upd (upd (upd (upd (upd (upd (upd (upd (upd (upd (upd (upd (upd (upd (upd (upd (upd (upd (upd (upd (upd (upd (upd (upd (fun _ => 0) 6 (-1000)) 7 (-1000)) 9 60) 10 4) 11 1) 14 60) 15 4) 16 1) 19 60) 20 4) 21 1) 24 60) 25 4) 26 1) 29 60) 30 4) 31 1) 34 60) 35 4) 36 1) 39 60) 40 4) 41 1) 44 60) 45 4) 46 1) 49 1) 50 100) 51 150) 52 1) 53 100) 54 150) 55 1) 56 100) 57 150) 58 1), arC cI m2 60 (fun _ => 0), arC cI m3 8 (fun _ => 0)]) rfl rfl (by omega) (by omega) rfl dX7_init_125 (fun H locs hP hD hS => ?_)
  refine lv_aload_n hx hb dX7_init_126 rfl (lv_at hl 1 rfl) ?_
  refine va_get (D := D) (ci := 7) (v := .ref m1) (C := RX7) (T := TX7) (N := 12) hx hb hts hinX7 hown hK hP 0 rfl rfl 1 (by decide) (hts (.fieldLink RX7 7 "RibbonBalloonsModel" "s" "[I") (by decide +kernel)) (fun _ h9 => h9) rfl dX7_init_127 ?_
  refine lv_bipush (v := 49) hx hb dX7_init_130 (by decide) ?_
  refine lv_iconst (v := 3) hx hb dX7_init_132 (by decide) ?_
  refine lv_iload_n hx hb dX7_init_133 rfl (lv_at hl 0 rfl) ?_
  refine lv_imul hx hb dX7_init_134 ?_
  refine lv_eqi (y := 9) (by decide) ?_
  refine lv_iadd hx hb dX7_init_135 ?_
  refine lv_eqi (y := 58) (by decide) ?_
  refine lv_iconst (v := 1) hx hb dX7_init_136 (by decide) ?_
  refine lv_iadd hx hb dX7_init_137 ?_
  refine lv_eqi (y := 59) (by decide) ?_
  refine lv_bipush (v := 100) hx hb dX7_init_138 (by decide) ?_
  refine r_iast hx hb hK hP hD hS 1 0 59 (f := upd (upd (upd (upd (upd (upd (upd (upd (upd (upd (upd (upd (upd (upd (upd (upd (upd (upd (upd (upd (upd (upd (upd (upd (upd (upd (upd (upd (upd (upd (upd (upd (upd (upd (upd (upd (fun _ => 0) 6 (-1000)) 7 (-1000)) 9 60) 10 4) 11 1) 14 60) 15 4) 16 1) 19 60) 20 4) 21 1) 24 60) 25 4) 26 1) 29 60) 30 4) 31 1) 34 60) 35 4) 36 1) 39 60) 40 4) 41 1) 44 60) 45 4) 46 1) 49 1) 50 100) 51 150) 52 1) 53 100) 54 150) 55 1) 56 100) 57 150) 58 1) (x := 100) (wn := List.flatten [obC m0 7 [.int 0, .ref m1, .int 0, .int 0, .ref m2, .int 0, .int 0, .int 0, .int 0, .int 0, .ref m3, .long 0], arC cI m1 1170 (upd (upd (upd (upd (upd (upd (upd (upd (upd (upd (upd (upd (upd (upd (upd (upd (upd (upd (upd (upd (upd (upd (upd (upd (upd (upd (upd (upd (upd (upd (upd (upd (upd (upd (upd (upd (upd (fun _ => 0) 6 (-1000)) 7 (-1000)) 9 60) 10 4) 11 1) 14 60) 15 4) 16 1) 19 60) 20 4) 21 1) 24 60) 25 4) 26 1) 29 60) 30 4) 31 1) 34 60) 35 4) 36 1) 39 60) 40 4) 41 1) 44 60) 45 4) 46 1) 49 1) 50 100) 51 150) 52 1) 53 100) 54 150) 55 1) 56 100) 57 150) 58 1) 59 100), arC cI m2 60 (fun _ => 0), arC cI m3 8 (fun _ => 0)]) rfl rfl (by omega) (by omega) rfl dX7_init_140 (fun H locs hP hD hS => ?_)
  refine lv_aload_n hx hb dX7_init_141 rfl (lv_at hl 1 rfl) ?_
  refine va_get (D := D) (ci := 7) (v := .ref m1) (C := RX7) (T := TX7) (N := 12) hx hb hts hinX7 hown hK hP 0 rfl rfl 1 (by decide) (hts (.fieldLink RX7 7 "RibbonBalloonsModel" "s" "[I") (by decide +kernel)) (fun _ h9 => h9) rfl dX7_init_142 ?_
  refine lv_bipush (v := 49) hx hb dX7_init_145 (by decide) ?_
  refine lv_iconst (v := 3) hx hb dX7_init_147 (by decide) ?_
  refine lv_iload_n hx hb dX7_init_148 rfl (lv_at hl 0 rfl) ?_
  refine lv_imul hx hb dX7_init_149 ?_
  refine lv_eqi (y := 9) (by decide) ?_
  refine lv_iadd hx hb dX7_init_150 ?_
  refine lv_eqi (y := 58) (by decide) ?_
  refine lv_iconst (v := 2) hx hb dX7_init_151 (by decide) ?_
  refine lv_iadd hx hb dX7_init_152 ?_
  refine lv_eqi (y := 60) (by decide) ?_
  refine lv_sipush (v := 150) hx hb dX7_init_153 (by decide) ?_
  refine r_iast hx hb hK hP hD hS 1 0 60 (f := upd (upd (upd (upd (upd (upd (upd (upd (upd (upd (upd (upd (upd (upd (upd (upd (upd (upd (upd (upd (upd (upd (upd (upd (upd (upd (upd (upd (upd (upd (upd (upd (upd (upd (upd (upd (upd (fun _ => 0) 6 (-1000)) 7 (-1000)) 9 60) 10 4) 11 1) 14 60) 15 4) 16 1) 19 60) 20 4) 21 1) 24 60) 25 4) 26 1) 29 60) 30 4) 31 1) 34 60) 35 4) 36 1) 39 60) 40 4) 41 1) 44 60) 45 4) 46 1) 49 1) 50 100) 51 150) 52 1) 53 100) 54 150) 55 1) 56 100) 57 150) 58 1) 59 100) (x := 150) (wn := List.flatten [obC m0 7 [.int 0, .ref m1, .int 0, .int 0, .ref m2, .int 0, .int 0, .int 0, .int 0, .int 0, .ref m3, .long 0], arC cI m1 1170 (upd (upd (upd (upd (upd (upd (upd (upd (upd (upd (upd (upd (upd (upd (upd (upd (upd (upd (upd (upd (upd (upd (upd (upd (upd (upd (upd (upd (upd (upd (upd (upd (upd (upd (upd (upd (upd (upd (fun _ => 0) 6 (-1000)) 7 (-1000)) 9 60) 10 4) 11 1) 14 60) 15 4) 16 1) 19 60) 20 4) 21 1) 24 60) 25 4) 26 1) 29 60) 30 4) 31 1) 34 60) 35 4) 36 1) 39 60) 40 4) 41 1) 44 60) 45 4) 46 1) 49 1) 50 100) 51 150) 52 1) 53 100) 54 150) 55 1) 56 100) 57 150) 58 1) 59 100) 60 150), arC cI m2 60 (fun _ => 0), arC cI m3 8 (fun _ => 0)]) rfl rfl (by omega) (by omega) rfl dX7_init_156 (fun H locs hP hD hS => ?_)
  refine lv_iinc (v := 4) (lv' := [(1, .int 4), (0, .ref m0)]) hx hb dX7_init_157 hl (k := 0) rfl (by decide) (by decide) rfl (fun ls hl => ?_)
  refine lv_goto (tgt := 108) hx hb dX7_init_160 (by decide) ?_
  refine lv_iload_n hx hb dX7_init_108 rfl (lv_at hl 0 rfl) ?_
  refine lv_bipush (v := 7) hx hb dX7_init_109 (by decide) ?_
  refine lv_icmp_ge (tgt := 163) hx hb dX7_init_111 (by decide) (fun h => absurd h (by decide)) (fun _ => ?_)
  refine lv_aload_n hx hb dX7_init_114 rfl (lv_at hl 1 rfl) ?_
  refine va_get (D := D) (ci := 7) (v := .ref m1) (C := RX7) (T := TX7) (N := 12) hx hb hts hinX7 hown hK hP 0 rfl rfl 1 (by decide) (hts (.fieldLink RX7 7 "RibbonBalloonsModel" "s" "[I") (by decide +kernel)) (fun _ h9 => h9) rfl dX7_init_115 ?_
  refine lv_bipush (v := 49) hx hb dX7_init_118 (by decide) ?_
  refine lv_iconst (v := 3) hx hb dX7_init_120 (by decide) ?_
  refine lv_iload_n hx hb dX7_init_121 rfl (lv_at hl 0 rfl) ?_
  refine lv_imul hx hb dX7_init_122 ?_
  refine lv_eqi (y := 12) (by decide) ?_
  refine lv_iadd hx hb dX7_init_123 ?_
  refine lv_eqi (y := 61) (by decide) ?_
  refine lv_iconst (v := 1) hx hb dX7_init_124 (by decide) ?_
  refine r_iast hx hb hK hP hD hS 1 0 61 (f := upd (upd (upd (upd (upd (upd (upd (upd (upd (upd (upd (upd (upd (upd (upd (upd (upd (upd (upd (upd (upd (upd (upd (upd (upd (upd (upd (upd (upd (upd (upd (upd (upd (upd (upd (upd (upd (upd (fun _ => 0) 6 (-1000)) 7 (-1000)) 9 60) 10 4) 11 1) 14 60) 15 4) 16 1) 19 60) 20 4) 21 1) 24 60) 25 4) 26 1) 29 60) 30 4) 31 1) 34 60) 35 4) 36 1) 39 60) 40 4) 41 1) 44 60) 45 4) 46 1) 49 1) 50 100) 51 150) 52 1) 53 100) 54 150) 55 1) 56 100) 57 150) 58 1) 59 100) 60 150) (x := 1) (wn := List.flatten [obC m0 7 [.int 0, .ref m1, .int 0, .int 0, .ref m2, .int 0, .int 0, .int 0, .int 0, .int 0, .ref m3, .long 0], arC cI m1 1170 (upd (upd (upd (upd (upd (upd (upd (upd (upd (upd (upd (upd (upd (upd (upd (upd (upd (upd (upd (upd (upd (upd (upd (upd (upd (upd (upd (upd (upd (upd (upd (upd (upd (upd (upd (upd (upd (upd (upd (fun _ => 0) 6 (-1000)) 7 (-1000)) 9 60) 10 4) 11 1) 14 60) 15 4) 16 1) 19 60) 20 4) 21 1) 24 60) 25 4) 26 1) 29 60) 30 4) 31 1) 34 60) 35 4) 36 1) 39 60) 40 4) 41 1) 44 60) 45 4) 46 1) 49 1) 50 100) 51 150) 52 1) 53 100) 54 150) 55 1) 56 100) 57 150) 58 1) 59 100) 60 150) 61 1), arC cI m2 60 (fun _ => 0), arC cI m3 8 (fun _ => 0)]) rfl rfl (by omega) (by omega) rfl dX7_init_125 (fun H locs hP hD hS => ?_)
  refine lv_aload_n hx hb dX7_init_126 rfl (lv_at hl 1 rfl) ?_
  refine va_get (D := D) (ci := 7) (v := .ref m1) (C := RX7) (T := TX7) (N := 12) hx hb hts hinX7 hown hK hP 0 rfl rfl 1 (by decide) (hts (.fieldLink RX7 7 "RibbonBalloonsModel" "s" "[I") (by decide +kernel)) (fun _ h9 => h9) rfl dX7_init_127 ?_
  refine lv_bipush (v := 49) hx hb dX7_init_130 (by decide) ?_
  refine lv_iconst (v := 3) hx hb dX7_init_132 (by decide) ?_
  refine lv_iload_n hx hb dX7_init_133 rfl (lv_at hl 0 rfl) ?_
  refine lv_imul hx hb dX7_init_134 ?_
  refine lv_eqi (y := 12) (by decide) ?_
  refine lv_iadd hx hb dX7_init_135 ?_
  refine lv_eqi (y := 61) (by decide) ?_
  refine lv_iconst (v := 1) hx hb dX7_init_136 (by decide) ?_
  refine lv_iadd hx hb dX7_init_137 ?_
  refine lv_eqi (y := 62) (by decide) ?_
  refine lv_bipush (v := 100) hx hb dX7_init_138 (by decide) ?_
  refine r_iast hx hb hK hP hD hS 1 0 62 (f := upd (upd (upd (upd (upd (upd (upd (upd (upd (upd (upd (upd (upd (upd (upd (upd (upd (upd (upd (upd (upd (upd (upd (upd (upd (upd (upd (upd (upd (upd (upd (upd (upd (upd (upd (upd (upd (upd (upd (fun _ => 0) 6 (-1000)) 7 (-1000)) 9 60) 10 4) 11 1) 14 60) 15 4) 16 1) 19 60) 20 4) 21 1) 24 60) 25 4) 26 1) 29 60) 30 4) 31 1) 34 60) 35 4) 36 1) 39 60) 40 4) 41 1) 44 60) 45 4) 46 1) 49 1) 50 100) 51 150) 52 1) 53 100) 54 150) 55 1) 56 100) 57 150) 58 1) 59 100) 60 150) 61 1) (x := 100) (wn := List.flatten [obC m0 7 [.int 0, .ref m1, .int 0, .int 0, .ref m2, .int 0, .int 0, .int 0, .int 0, .int 0, .ref m3, .long 0], arC cI m1 1170 (upd (upd (upd (upd (upd (upd (upd (upd (upd (upd (upd (upd (upd (upd (upd (upd (upd (upd (upd (upd (upd (upd (upd (upd (upd (upd (upd (upd (upd (upd (upd (upd (upd (upd (upd (upd (upd (upd (upd (upd (fun _ => 0) 6 (-1000)) 7 (-1000)) 9 60) 10 4) 11 1) 14 60) 15 4) 16 1) 19 60) 20 4) 21 1) 24 60) 25 4) 26 1) 29 60) 30 4) 31 1) 34 60) 35 4) 36 1) 39 60) 40 4) 41 1) 44 60) 45 4) 46 1) 49 1) 50 100) 51 150) 52 1) 53 100) 54 150) 55 1) 56 100) 57 150) 58 1) 59 100) 60 150) 61 1) 62 100), arC cI m2 60 (fun _ => 0), arC cI m3 8 (fun _ => 0)]) rfl rfl (by omega) (by omega) rfl dX7_init_140 (fun H locs hP hD hS => ?_)
  refine lv_aload_n hx hb dX7_init_141 rfl (lv_at hl 1 rfl) ?_
  refine va_get (D := D) (ci := 7) (v := .ref m1) (C := RX7) (T := TX7) (N := 12) hx hb hts hinX7 hown hK hP 0 rfl rfl 1 (by decide) (hts (.fieldLink RX7 7 "RibbonBalloonsModel" "s" "[I") (by decide +kernel)) (fun _ h9 => h9) rfl dX7_init_142 ?_
  refine lv_bipush (v := 49) hx hb dX7_init_145 (by decide) ?_
  refine lv_iconst (v := 3) hx hb dX7_init_147 (by decide) ?_
  refine lv_iload_n hx hb dX7_init_148 rfl (lv_at hl 0 rfl) ?_
  refine lv_imul hx hb dX7_init_149 ?_
  refine lv_eqi (y := 12) (by decide) ?_
  refine lv_iadd hx hb dX7_init_150 ?_
  refine lv_eqi (y := 61) (by decide) ?_
  refine lv_iconst (v := 2) hx hb dX7_init_151 (by decide) ?_
  refine lv_iadd hx hb dX7_init_152 ?_
  refine lv_eqi (y := 63) (by decide) ?_
  refine lv_sipush (v := 150) hx hb dX7_init_153 (by decide) ?_
  refine r_iast hx hb hK hP hD hS 1 0 63 (f := upd (upd (upd (upd (upd (upd (upd (upd (upd (upd (upd (upd (upd (upd (upd (upd (upd (upd (upd (upd (upd (upd (upd (upd (upd (upd (upd (upd (upd (upd (upd (upd (upd (upd (upd (upd (upd (upd (upd (upd (fun _ => 0) 6 (-1000)) 7 (-1000)) 9 60) 10 4) 11 1) 14 60) 15 4) 16 1) 19 60) 20 4) 21 1) 24 60) 25 4) 26 1) 29 60) 30 4) 31 1) 34 60) 35 4) 36 1) 39 60) 40 4) 41 1) 44 60) 45 4) 46 1) 49 1) 50 100) 51 150) 52 1) 53 100) 54 150) 55 1) 56 100) 57 150) 58 1) 59 100) 60 150) 61 1) 62 100) (x := 150) (wn := List.flatten [obC m0 7 [.int 0, .ref m1, .int 0, .int 0, .ref m2, .int 0, .int 0, .int 0, .int 0, .int 0, .ref m3, .long 0], arC cI m1 1170 (upd (upd (upd (upd (upd (upd (upd (upd (upd (upd (upd (upd (upd (upd (upd (upd (upd (upd (upd (upd (upd (upd (upd (upd (upd (upd (upd (upd (upd (upd (upd (upd (upd (upd (upd (upd (upd (upd (upd (upd (upd (fun _ => 0) 6 (-1000)) 7 (-1000)) 9 60) 10 4) 11 1) 14 60) 15 4) 16 1) 19 60) 20 4) 21 1) 24 60) 25 4) 26 1) 29 60) 30 4) 31 1) 34 60) 35 4) 36 1) 39 60) 40 4) 41 1) 44 60) 45 4) 46 1) 49 1) 50 100) 51 150) 52 1) 53 100) 54 150) 55 1) 56 100) 57 150) 58 1) 59 100) 60 150) 61 1) 62 100) 63 150), arC cI m2 60 (fun _ => 0), arC cI m3 8 (fun _ => 0)]) rfl rfl (by omega) (by omega) rfl dX7_init_156 (fun H locs hP hD hS => ?_)
  refine lv_iinc (v := 5) (lv' := [(1, .int 5), (0, .ref m0)]) hx hb dX7_init_157 hl (k := 0) rfl (by decide) (by decide) rfl (fun ls hl => ?_)
  refine lv_goto (tgt := 108) hx hb dX7_init_160 (by decide) ?_
  refine lv_iload_n hx hb dX7_init_108 rfl (lv_at hl 0 rfl) ?_
  refine lv_bipush (v := 7) hx hb dX7_init_109 (by decide) ?_
  refine lv_icmp_ge (tgt := 163) hx hb dX7_init_111 (by decide) (fun h => absurd h (by decide)) (fun _ => ?_)
  refine lv_aload_n hx hb dX7_init_114 rfl (lv_at hl 1 rfl) ?_
  refine va_get (D := D) (ci := 7) (v := .ref m1) (C := RX7) (T := TX7) (N := 12) hx hb hts hinX7 hown hK hP 0 rfl rfl 1 (by decide) (hts (.fieldLink RX7 7 "RibbonBalloonsModel" "s" "[I") (by decide +kernel)) (fun _ h9 => h9) rfl dX7_init_115 ?_
  refine lv_bipush (v := 49) hx hb dX7_init_118 (by decide) ?_
  refine lv_iconst (v := 3) hx hb dX7_init_120 (by decide) ?_
  refine lv_iload_n hx hb dX7_init_121 rfl (lv_at hl 0 rfl) ?_
  refine lv_imul hx hb dX7_init_122 ?_
  refine lv_eqi (y := 15) (by decide) ?_
  refine lv_iadd hx hb dX7_init_123 ?_
  refine lv_eqi (y := 64) (by decide) ?_
  refine lv_iconst (v := 1) hx hb dX7_init_124 (by decide) ?_
  refine r_iast hx hb hK hP hD hS 1 0 64 (f := upd (upd (upd (upd (upd (upd (upd (upd (upd (upd (upd (upd (upd (upd (upd (upd (upd (upd (upd (upd (upd (upd (upd (upd (upd (upd (upd (upd (upd (upd (upd (upd (upd (upd (upd (upd (upd (upd (upd (upd (upd (fun _ => 0) 6 (-1000)) 7 (-1000)) 9 60) 10 4) 11 1) 14 60) 15 4) 16 1) 19 60) 20 4) 21 1) 24 60) 25 4) 26 1) 29 60) 30 4) 31 1) 34 60) 35 4) 36 1) 39 60) 40 4) 41 1) 44 60) 45 4) 46 1) 49 1) 50 100) 51 150) 52 1) 53 100) 54 150) 55 1) 56 100) 57 150) 58 1) 59 100) 60 150) 61 1) 62 100) 63 150) (x := 1) (wn := List.flatten [obC m0 7 [.int 0, .ref m1, .int 0, .int 0, .ref m2, .int 0, .int 0, .int 0, .int 0, .int 0, .ref m3, .long 0], arC cI m1 1170 (upd (upd (upd (upd (upd (upd (upd (upd (upd (upd (upd (upd (upd (upd (upd (upd (upd (upd (upd (upd (upd (upd (upd (upd (upd (upd (upd (upd (upd (upd (upd (upd (upd (upd (upd (upd (upd (upd (upd (upd (upd (upd (fun _ => 0) 6 (-1000)) 7 (-1000)) 9 60) 10 4) 11 1) 14 60) 15 4) 16 1) 19 60) 20 4) 21 1) 24 60) 25 4) 26 1) 29 60) 30 4) 31 1) 34 60) 35 4) 36 1) 39 60) 40 4) 41 1) 44 60) 45 4) 46 1) 49 1) 50 100) 51 150) 52 1) 53 100) 54 150) 55 1) 56 100) 57 150) 58 1) 59 100) 60 150) 61 1) 62 100) 63 150) 64 1), arC cI m2 60 (fun _ => 0), arC cI m3 8 (fun _ => 0)]) rfl rfl (by omega) (by omega) rfl dX7_init_125 (fun H locs hP hD hS => ?_)
  refine lv_aload_n hx hb dX7_init_126 rfl (lv_at hl 1 rfl) ?_
  refine va_get (D := D) (ci := 7) (v := .ref m1) (C := RX7) (T := TX7) (N := 12) hx hb hts hinX7 hown hK hP 0 rfl rfl 1 (by decide) (hts (.fieldLink RX7 7 "RibbonBalloonsModel" "s" "[I") (by decide +kernel)) (fun _ h9 => h9) rfl dX7_init_127 ?_
  refine lv_bipush (v := 49) hx hb dX7_init_130 (by decide) ?_
  refine lv_iconst (v := 3) hx hb dX7_init_132 (by decide) ?_
  refine lv_iload_n hx hb dX7_init_133 rfl (lv_at hl 0 rfl) ?_
  refine lv_imul hx hb dX7_init_134 ?_
  refine lv_eqi (y := 15) (by decide) ?_
  refine lv_iadd hx hb dX7_init_135 ?_
  refine lv_eqi (y := 64) (by decide) ?_
  refine lv_iconst (v := 1) hx hb dX7_init_136 (by decide) ?_
  refine lv_iadd hx hb dX7_init_137 ?_
  refine lv_eqi (y := 65) (by decide) ?_
  refine lv_bipush (v := 100) hx hb dX7_init_138 (by decide) ?_
  refine r_iast hx hb hK hP hD hS 1 0 65 (f := upd (upd (upd (upd (upd (upd (upd (upd (upd (upd (upd (upd (upd (upd (upd (upd (upd (upd (upd (upd (upd (upd (upd (upd (upd (upd (upd (upd (upd (upd (upd (upd (upd (upd (upd (upd (upd (upd (upd (upd (upd (upd (fun _ => 0) 6 (-1000)) 7 (-1000)) 9 60) 10 4) 11 1) 14 60) 15 4) 16 1) 19 60) 20 4) 21 1) 24 60) 25 4) 26 1) 29 60) 30 4) 31 1) 34 60) 35 4) 36 1) 39 60) 40 4) 41 1) 44 60) 45 4) 46 1) 49 1) 50 100) 51 150) 52 1) 53 100) 54 150) 55 1) 56 100) 57 150) 58 1) 59 100) 60 150) 61 1) 62 100) 63 150) 64 1) (x := 100) (wn := List.flatten [obC m0 7 [.int 0, .ref m1, .int 0, .int 0, .ref m2, .int 0, .int 0, .int 0, .int 0, .int 0, .ref m3, .long 0], arC cI m1 1170 (upd (upd (upd (upd (upd (upd (upd (upd (upd (upd (upd (upd (upd (upd (upd (upd (upd (upd (upd (upd (upd (upd (upd (upd (upd (upd (upd (upd (upd (upd (upd (upd (upd (upd (upd (upd (upd (upd (upd (upd (upd (upd (upd (fun _ => 0) 6 (-1000)) 7 (-1000)) 9 60) 10 4) 11 1) 14 60) 15 4) 16 1) 19 60) 20 4) 21 1) 24 60) 25 4) 26 1) 29 60) 30 4) 31 1) 34 60) 35 4) 36 1) 39 60) 40 4) 41 1) 44 60) 45 4) 46 1) 49 1) 50 100) 51 150) 52 1) 53 100) 54 150) 55 1) 56 100) 57 150) 58 1) 59 100) 60 150) 61 1) 62 100) 63 150) 64 1) 65 100), arC cI m2 60 (fun _ => 0), arC cI m3 8 (fun _ => 0)]) rfl rfl (by omega) (by omega) rfl dX7_init_140 (fun H locs hP hD hS => ?_)
  refine lv_aload_n hx hb dX7_init_141 rfl (lv_at hl 1 rfl) ?_
  refine va_get (D := D) (ci := 7) (v := .ref m1) (C := RX7) (T := TX7) (N := 12) hx hb hts hinX7 hown hK hP 0 rfl rfl 1 (by decide) (hts (.fieldLink RX7 7 "RibbonBalloonsModel" "s" "[I") (by decide +kernel)) (fun _ h9 => h9) rfl dX7_init_142 ?_
  refine lv_bipush (v := 49) hx hb dX7_init_145 (by decide) ?_
  refine lv_iconst (v := 3) hx hb dX7_init_147 (by decide) ?_
  refine lv_iload_n hx hb dX7_init_148 rfl (lv_at hl 0 rfl) ?_
  refine lv_imul hx hb dX7_init_149 ?_
  refine lv_eqi (y := 15) (by decide) ?_
  refine lv_iadd hx hb dX7_init_150 ?_
  refine lv_eqi (y := 64) (by decide) ?_
  refine lv_iconst (v := 2) hx hb dX7_init_151 (by decide) ?_
  refine lv_iadd hx hb dX7_init_152 ?_
  refine lv_eqi (y := 66) (by decide) ?_
  refine lv_sipush (v := 150) hx hb dX7_init_153 (by decide) ?_
  refine r_iast hx hb hK hP hD hS 1 0 66 (f := upd (upd (upd (upd (upd (upd (upd (upd (upd (upd (upd (upd (upd (upd (upd (upd (upd (upd (upd (upd (upd (upd (upd (upd (upd (upd (upd (upd (upd (upd (upd (upd (upd (upd (upd (upd (upd (upd (upd (upd (upd (upd (upd (fun _ => 0) 6 (-1000)) 7 (-1000)) 9 60) 10 4) 11 1) 14 60) 15 4) 16 1) 19 60) 20 4) 21 1) 24 60) 25 4) 26 1) 29 60) 30 4) 31 1) 34 60) 35 4) 36 1) 39 60) 40 4) 41 1) 44 60) 45 4) 46 1) 49 1) 50 100) 51 150) 52 1) 53 100) 54 150) 55 1) 56 100) 57 150) 58 1) 59 100) 60 150) 61 1) 62 100) 63 150) 64 1) 65 100) (x := 150) (wn := List.flatten [obC m0 7 [.int 0, .ref m1, .int 0, .int 0, .ref m2, .int 0, .int 0, .int 0, .int 0, .int 0, .ref m3, .long 0], arC cI m1 1170 (upd (upd (upd (upd (upd (upd (upd (upd (upd (upd (upd (upd (upd (upd (upd (upd (upd (upd (upd (upd (upd (upd (upd (upd (upd (upd (upd (upd (upd (upd (upd (upd (upd (upd (upd (upd (upd (upd (upd (upd (upd (upd (upd (upd (fun _ => 0) 6 (-1000)) 7 (-1000)) 9 60) 10 4) 11 1) 14 60) 15 4) 16 1) 19 60) 20 4) 21 1) 24 60) 25 4) 26 1) 29 60) 30 4) 31 1) 34 60) 35 4) 36 1) 39 60) 40 4) 41 1) 44 60) 45 4) 46 1) 49 1) 50 100) 51 150) 52 1) 53 100) 54 150) 55 1) 56 100) 57 150) 58 1) 59 100) 60 150) 61 1) 62 100) 63 150) 64 1) 65 100) 66 150), arC cI m2 60 (fun _ => 0), arC cI m3 8 (fun _ => 0)]) rfl rfl (by omega) (by omega) rfl dX7_init_156 (fun H locs hP hD hS => ?_)
  refine lv_iinc (v := 6) (lv' := [(1, .int 6), (0, .ref m0)]) hx hb dX7_init_157 hl (k := 0) rfl (by decide) (by decide) rfl (fun ls hl => ?_)
  refine lv_goto (tgt := 108) hx hb dX7_init_160 (by decide) ?_
  refine lv_iload_n hx hb dX7_init_108 rfl (lv_at hl 0 rfl) ?_
  refine lv_bipush (v := 7) hx hb dX7_init_109 (by decide) ?_
  refine lv_icmp_ge (tgt := 163) hx hb dX7_init_111 (by decide) (fun h => absurd h (by decide)) (fun _ => ?_)
  refine lv_aload_n hx hb dX7_init_114 rfl (lv_at hl 1 rfl) ?_
  refine va_get (D := D) (ci := 7) (v := .ref m1) (C := RX7) (T := TX7) (N := 12) hx hb hts hinX7 hown hK hP 0 rfl rfl 1 (by decide) (hts (.fieldLink RX7 7 "RibbonBalloonsModel" "s" "[I") (by decide +kernel)) (fun _ h9 => h9) rfl dX7_init_115 ?_
  refine lv_bipush (v := 49) hx hb dX7_init_118 (by decide) ?_
  refine lv_iconst (v := 3) hx hb dX7_init_120 (by decide) ?_
  refine lv_iload_n hx hb dX7_init_121 rfl (lv_at hl 0 rfl) ?_
  refine lv_imul hx hb dX7_init_122 ?_
  refine lv_eqi (y := 18) (by decide) ?_
  refine lv_iadd hx hb dX7_init_123 ?_
  refine lv_eqi (y := 67) (by decide) ?_
  refine lv_iconst (v := 1) hx hb dX7_init_124 (by decide) ?_
  refine r_iast hx hb hK hP hD hS 1 0 67 (f := upd (upd (upd (upd (upd (upd (upd (upd (upd (upd (upd (upd (upd (upd (upd (upd (upd (upd (upd (upd (upd (upd (upd (upd (upd (upd (upd (upd (upd (upd (upd (upd (upd (upd (upd (upd (upd (upd (upd (upd (upd (upd (upd (upd (fun _ => 0) 6 (-1000)) 7 (-1000)) 9 60) 10 4) 11 1) 14 60) 15 4) 16 1) 19 60) 20 4) 21 1) 24 60) 25 4) 26 1) 29 60) 30 4) 31 1) 34 60) 35 4) 36 1) 39 60) 40 4) 41 1) 44 60) 45 4) 46 1) 49 1) 50 100) 51 150) 52 1) 53 100) 54 150) 55 1) 56 100) 57 150) 58 1) 59 100) 60 150) 61 1) 62 100) 63 150) 64 1) 65 100) 66 150) (x := 1) (wn := List.flatten [obC m0 7 [.int 0, .ref m1, .int 0, .int 0, .ref m2, .int 0, .int 0, .int 0, .int 0, .int 0, .ref m3, .long 0], arC cI m1 1170 (upd (upd (upd (upd (upd (upd (upd (upd (upd (upd (upd (upd (upd (upd (upd (upd (upd (upd (upd (upd (upd (upd (upd (upd (upd (upd (upd (upd (upd (upd (upd (upd (upd (upd (upd (upd (upd (upd (upd (upd (upd (upd (upd (upd (upd (fun _ => 0) 6 (-1000)) 7 (-1000)) 9 60) 10 4) 11 1) 14 60) 15 4) 16 1) 19 60) 20 4) 21 1) 24 60) 25 4) 26 1) 29 60) 30 4) 31 1) 34 60) 35 4) 36 1) 39 60) 40 4) 41 1) 44 60) 45 4) 46 1) 49 1) 50 100) 51 150) 52 1) 53 100) 54 150) 55 1) 56 100) 57 150) 58 1) 59 100) 60 150) 61 1) 62 100) 63 150) 64 1) 65 100) 66 150) 67 1), arC cI m2 60 (fun _ => 0), arC cI m3 8 (fun _ => 0)]) rfl rfl (by omega) (by omega) rfl dX7_init_125 (fun H locs hP hD hS => ?_)
  refine lv_aload_n hx hb dX7_init_126 rfl (lv_at hl 1 rfl) ?_
  refine va_get (D := D) (ci := 7) (v := .ref m1) (C := RX7) (T := TX7) (N := 12) hx hb hts hinX7 hown hK hP 0 rfl rfl 1 (by decide) (hts (.fieldLink RX7 7 "RibbonBalloonsModel" "s" "[I") (by decide +kernel)) (fun _ h9 => h9) rfl dX7_init_127 ?_
  refine lv_bipush (v := 49) hx hb dX7_init_130 (by decide) ?_
  refine lv_iconst (v := 3) hx hb dX7_init_132 (by decide) ?_
  refine lv_iload_n hx hb dX7_init_133 rfl (lv_at hl 0 rfl) ?_
  refine lv_imul hx hb dX7_init_134 ?_
  refine lv_eqi (y := 18) (by decide) ?_
  refine lv_iadd hx hb dX7_init_135 ?_
  refine lv_eqi (y := 67) (by decide) ?_
  refine lv_iconst (v := 1) hx hb dX7_init_136 (by decide) ?_
  refine lv_iadd hx hb dX7_init_137 ?_
  refine lv_eqi (y := 68) (by decide) ?_
  refine lv_bipush (v := 100) hx hb dX7_init_138 (by decide) ?_
  refine r_iast hx hb hK hP hD hS 1 0 68 (f := upd (upd (upd (upd (upd (upd (upd (upd (upd (upd (upd (upd (upd (upd (upd (upd (upd (upd (upd (upd (upd (upd (upd (upd (upd (upd (upd (upd (upd (upd (upd (upd (upd (upd (upd (upd (upd (upd (upd (upd (upd (upd (upd (upd (upd (fun _ => 0) 6 (-1000)) 7 (-1000)) 9 60) 10 4) 11 1) 14 60) 15 4) 16 1) 19 60) 20 4) 21 1) 24 60) 25 4) 26 1) 29 60) 30 4) 31 1) 34 60) 35 4) 36 1) 39 60) 40 4) 41 1) 44 60) 45 4) 46 1) 49 1) 50 100) 51 150) 52 1) 53 100) 54 150) 55 1) 56 100) 57 150) 58 1) 59 100) 60 150) 61 1) 62 100) 63 150) 64 1) 65 100) 66 150) 67 1) (x := 100) (wn := List.flatten [obC m0 7 [.int 0, .ref m1, .int 0, .int 0, .ref m2, .int 0, .int 0, .int 0, .int 0, .int 0, .ref m3, .long 0], arC cI m1 1170 (upd (upd (upd (upd (upd (upd (upd (upd (upd (upd (upd (upd (upd (upd (upd (upd (upd (upd (upd (upd (upd (upd (upd (upd (upd (upd (upd (upd (upd (upd (upd (upd (upd (upd (upd (upd (upd (upd (upd (upd (upd (upd (upd (upd (upd (upd (fun _ => 0) 6 (-1000)) 7 (-1000)) 9 60) 10 4) 11 1) 14 60) 15 4) 16 1) 19 60) 20 4) 21 1) 24 60) 25 4) 26 1) 29 60) 30 4) 31 1) 34 60) 35 4) 36 1) 39 60) 40 4) 41 1) 44 60) 45 4) 46 1) 49 1) 50 100) 51 150) 52 1) 53 100) 54 150) 55 1) 56 100) 57 150) 58 1) 59 100) 60 150) 61 1) 62 100) 63 150) 64 1) 65 100) 66 150) 67 1) 68 100), arC cI m2 60 (fun _ => 0), arC cI m3 8 (fun _ => 0)]) rfl rfl (by omega) (by omega) rfl dX7_init_140 (fun H locs hP hD hS => ?_)
  refine lv_aload_n hx hb dX7_init_141 rfl (lv_at hl 1 rfl) ?_
  refine va_get (D := D) (ci := 7) (v := .ref m1) (C := RX7) (T := TX7) (N := 12) hx hb hts hinX7 hown hK hP 0 rfl rfl 1 (by decide) (hts (.fieldLink RX7 7 "RibbonBalloonsModel" "s" "[I") (by decide +kernel)) (fun _ h9 => h9) rfl dX7_init_142 ?_
  refine lv_bipush (v := 49) hx hb dX7_init_145 (by decide) ?_
  refine lv_iconst (v := 3) hx hb dX7_init_147 (by decide) ?_
  refine lv_iload_n hx hb dX7_init_148 rfl (lv_at hl 0 rfl) ?_
  refine lv_imul hx hb dX7_init_149 ?_
  refine lv_eqi (y := 18) (by decide) ?_
  refine lv_iadd hx hb dX7_init_150 ?_
  refine lv_eqi (y := 67) (by decide) ?_
  refine lv_iconst (v := 2) hx hb dX7_init_151 (by decide) ?_
  refine lv_iadd hx hb dX7_init_152 ?_
  refine lv_eqi (y := 69) (by decide) ?_
  refine lv_sipush (v := 150) hx hb dX7_init_153 (by decide) ?_
  refine r_iast hx hb hK hP hD hS 1 0 69 (f := upd (upd (upd (upd (upd (upd (upd (upd (upd (upd (upd (upd (upd (upd (upd (upd (upd (upd (upd (upd (upd (upd (upd (upd (upd (upd (upd (upd (upd (upd (upd (upd (upd (upd (upd (upd (upd (upd (upd (upd (upd (upd (upd (upd (upd (upd (fun _ => 0) 6 (-1000)) 7 (-1000)) 9 60) 10 4) 11 1) 14 60) 15 4) 16 1) 19 60) 20 4) 21 1) 24 60) 25 4) 26 1) 29 60) 30 4) 31 1) 34 60) 35 4) 36 1) 39 60) 40 4) 41 1) 44 60) 45 4) 46 1) 49 1) 50 100) 51 150) 52 1) 53 100) 54 150) 55 1) 56 100) 57 150) 58 1) 59 100) 60 150) 61 1) 62 100) 63 150) 64 1) 65 100) 66 150) 67 1) 68 100) (x := 150) (wn := List.flatten [obC m0 7 [.int 0, .ref m1, .int 0, .int 0, .ref m2, .int 0, .int 0, .int 0, .int 0, .int 0, .ref m3, .long 0], arC cI m1 1170 (upd (upd (upd (upd (upd (upd (upd (upd (upd (upd (upd (upd (upd (upd (upd (upd (upd (upd (upd (upd (upd (upd (upd (upd (upd (upd (upd (upd (upd (upd (upd (upd (upd (upd (upd (upd (upd (upd (upd (upd (upd (upd (upd (upd (upd (upd (upd (fun _ => 0) 6 (-1000)) 7 (-1000)) 9 60) 10 4) 11 1) 14 60) 15 4) 16 1) 19 60) 20 4) 21 1) 24 60) 25 4) 26 1) 29 60) 30 4) 31 1) 34 60) 35 4) 36 1) 39 60) 40 4) 41 1) 44 60) 45 4) 46 1) 49 1) 50 100) 51 150) 52 1) 53 100) 54 150) 55 1) 56 100) 57 150) 58 1) 59 100) 60 150) 61 1) 62 100) 63 150) 64 1) 65 100) 66 150) 67 1) 68 100) 69 150), arC cI m2 60 (fun _ => 0), arC cI m3 8 (fun _ => 0)]) rfl rfl (by omega) (by omega) rfl dX7_init_156 (fun H locs hP hD hS => ?_)
  refine lv_iinc (v := 7) (lv' := [(1, .int 7), (0, .ref m0)]) hx hb dX7_init_157 hl (k := 0) rfl (by decide) (by decide) rfl (fun ls hl => ?_)
  refine lv_goto (tgt := 108) hx hb dX7_init_160 (by decide) ?_
  refine lv_iload_n hx hb dX7_init_108 rfl (lv_at hl 0 rfl) ?_
  refine lv_bipush (v := 7) hx hb dX7_init_109 (by decide) ?_
  refine lv_icmp_ge (tgt := 163) hx hb dX7_init_111 (by decide) (fun _ => ?_) (fun h => absurd (by decide) h)
  obtain ⟨hP, hD⟩ := PD_cg hP hD 1 ((enc init7)) rfl (by decide +kernel) (wn := List.flatten [obC m0 7 [.int 0, .ref m1, .int 0, .int 0, .ref m2, .int 0, .int 0, .int 0, .int 0, .int 0, .ref m3, .long 0], arC cI m1 1170 (enc init7), arC cI m2 60 (fun _ => 0), arC cI m3 8 (fun _ => 0)]) rfl
  have hP : va_P D vwCl (List.flatten [mdO m0 m1 m2 m3 0 0 0 0 0 0 0 0 0, arC cI m1 1170 (enc init7), arC cI m2 60 (fun _ => 0), arC cI m3 8 (fun _ => 0)]) _ := hP
  have hD : va_D A (List.flatten [mdO m0 m1 m2 m3 0 0 0 0 0 0 0 0 0, arC cI m1 1170 (enc init7), arC cI m2 60 (fun _ => 0), arC cI m3 8 (fun _ => 0)]) := hD
  exact hend (m1, m2, m3) _ _ _ _ trivial hP hD hS dX7_init_163

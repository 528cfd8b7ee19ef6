set_option maxHeartbeats 4000000 in
set_option maxRecDepth 100000 in
theorem c_X3_init (l : Launch) (D : va_G) (cI cZ cS cJ : ClassId) (n0 : Nat)  : CE (U := (Nat) × (Nat) × (Nat)) l yX3_init wsX3_init ({ frames := 1, cells := 3, slots := 60, locals := 12 }) D (tyL cI cZ cS cJ) [.ref n0] (List.flatten [obC n0 3 [.null, .null, .null, .int 0]]) (fun u => True) (fun u => none) (fun u => List.flatten [ntX cI n0 u.1 u.2.1 u.2.2 (fun _ => 0) (fun _ => 0) (fun _ => 0) 0]) 3 60 := by
  refine CE_void (cc := cX3_init) (maxL := 1) (by decide) rfl (Nat.le_of_ble_eq_true rfl) ?_
  intro p e s m below meth c A ls Q X hnm hK hP hD hS hA hl hend
  have X : CallFix p m c cX3_init 1 s ([.ref n0] : List Value).toArray wsX3_init RX3 := X
  obtain ⟨hx, hb, hml, hown, hts⟩ := id X
  have hl : lv_has ls 1 [(0, .ref n0)] := hl
  have hinX3 : ∀ w ∈ u_ws RX3 TX3 4, w ∈ wsX3_init := by decide +kernel
  refine lv_aload_n hx hb dX3_init_0 rfl (lv_at hl 0 rfl) ?_
  refine W.objInit hx hb hown (hts (.methodLink RX3 3 objectInit) (by decide +kernel)) (hts (.instanceMethod objectInit) (by decide +kernel)) (hts (.code objectInit ⟨#[0xb1]⟩ 1 none) (by decide +kernel)) rfl (by rw [hml]; exact hl.1) rfl dX3_init_1 (Nat.le_of_ble_eq_true rfl) (Nat.le_of_ble_eq_true rfl) ?_
  refine W.eq (g2 := F0 m 4 ls []) rfl ?_
  refine lv_aload_n hx hb dX3_init_4 rfl (lv_at hl 0 rfl) ?_
  refine lv_bipush (v := 20) hx hb dX3_init_5 (by decide) ?_
  refine r_newI (N := 20) hx hb (hts (.arrayClass .int) (by decide +kernel)) hK hP hD hS hA (by decide) (by decide) (by decide) (Nat.le_of_ble_eq_true rfl) (Nat.le_of_ble_eq_true rfl) dX3_init_7 (fun n1 H hP hD hS => ?_)
  have hP : va_P D vwCl (List.flatten [obC n0 3 [.null, .null, .null, .int 0], arC cI n1 20 (fun _ => 0)]) _ := hP
  have hD : va_D A (List.flatten [obC n0 3 [.null, .null, .null, .int 0], arC cI n1 20 (fun _ => 0)]) := hD
  refine va_putF (D := D) (ci := 3) (v := .ref n1) (ty := (.array .int)) (C := RX3) (T := TX3) (N := 4) hx hb hts hinX3 tyX3 tyX3_ok nmX3 hown hK hP hD hS 0 rfl rfl 0 (by decide) (hts (.fieldLink RX3 9 "RibbonBalloons$Notes" "balloons" "[I") (by decide +kernel)) (fun _ h9 => h9) rfl hnm rfl (by decide +kernel) rfl rfl (Nat.le_of_ble_eq_true rfl) dX3_init_9 (fun H locs hP hD hS => ?_)
  have hP : va_P D vwCl (List.flatten [obC n0 3 [.ref n1, .null, .null, .int 0], arC cI n1 20 (fun _ => 0)]) _ := hP
  have hD : va_D A (List.flatten [obC n0 3 [.ref n1, .null, .null, .int 0], arC cI n1 20 (fun _ => 0)]) := hD
  refine lv_aload_n hx hb dX3_init_12 rfl (lv_at hl 0 rfl) ?_
  refine lv_bipush (v := 20) hx hb dX3_init_13 (by decide) ?_
  refine r_newI (N := 20) hx hb (hts (.arrayClass .int) (by decide +kernel)) hK hP hD hS hA (by decide) (by decide) (by decide) (Nat.le_of_ble_eq_true rfl) (Nat.le_of_ble_eq_true rfl) dX3_init_15 (fun n2 H hP hD hS => ?_)
  have hP : va_P D vwCl (List.flatten [obC n0 3 [.ref n1, .null, .null, .int 0], arC cI n1 20 (fun _ => 0), arC cI n2 20 (fun _ => 0)]) _ := hP
  have hD : va_D A (List.flatten [obC n0 3 [.ref n1, .null, .null, .int 0], arC cI n1 20 (fun _ => 0), arC cI n2 20 (fun _ => 0)]) := hD
  refine va_putF (D := D) (ci := 3) (v := .ref n2) (ty := (.array .int)) (C := RX3) (T := TX3) (N := 4) hx hb hts hinX3 tyX3 tyX3_ok nmX3 hown hK hP hD hS 0 rfl rfl 1 (by decide) (hts (.fieldLink RX3 15 "RibbonBalloons$Notes" "hours" "[I") (by decide +kernel)) (fun _ h9 => h9) rfl hnm rfl (by decide +kernel) rfl rfl (Nat.le_of_ble_eq_true rfl) dX3_init_17 (fun H locs hP hD hS => ?_)
  have hP : va_P D vwCl (List.flatten [obC n0 3 [.ref n1, .ref n2, .null, .int 0], arC cI n1 20 (fun _ => 0), arC cI n2 20 (fun _ => 0)]) _ := hP
  have hD : va_D A (List.flatten [obC n0 3 [.ref n1, .ref n2, .null, .int 0], arC cI n1 20 (fun _ => 0), arC cI n2 20 (fun _ => 0)]) := hD
  refine lv_aload_n hx hb dX3_init_20 rfl (lv_at hl 0 rfl) ?_
  refine lv_bipush (v := 20) hx hb dX3_init_21 (by decide) ?_
  refine r_newI (N := 20) hx hb (hts (.arrayClass .int) (by decide +kernel)) hK hP hD hS hA (by decide) (by decide) (by decide) (Nat.le_of_ble_eq_true rfl) (Nat.le_of_ble_eq_true rfl) dX3_init_23 (fun n3 H hP hD hS => ?_)
  have hP : va_P D vwCl (List.flatten [obC n0 3 [.ref n1, .ref n2, .null, .int 0], arC cI n1 20 (fun _ => 0), arC cI n2 20 (fun _ => 0), arC cI n3 20 (fun _ => 0)]) _ := hP
  have hD : va_D A (List.flatten [obC n0 3 [.ref n1, .ref n2, .null, .int 0], arC cI n1 20 (fun _ => 0), arC cI n2 20 (fun _ => 0), arC cI n3 20 (fun _ => 0)]) := hD
  refine va_putF (D := D) (ci := 3) (v := .ref n3) (ty := (.array .int)) (C := RX3) (T := TX3) (N := 4) hx hb hts hinX3 tyX3 tyX3_ok nmX3 hown hK hP hD hS 0 rfl rfl 2 (by decide) (hts (.fieldLink RX3 18 "RibbonBalloons$Notes" "tellings" "[I") (by decide +kernel)) (fun _ h9 => h9) rfl hnm rfl (by decide +kernel) rfl rfl (Nat.le_of_ble_eq_true rfl) dX3_init_25 (fun H locs hP hD hS => ?_)
  have hP : va_P D vwCl (List.flatten [obC n0 3 [.ref n1, .ref n2, .ref n3, .int 0], arC cI n1 20 (fun _ => 0), arC cI n2 20 (fun _ => 0), arC cI n3 20 (fun _ => 0)]) _ := hP
  have hD : va_D A (List.flatten [obC n0 3 [.ref n1, .ref n2, .ref n3, .int 0], arC cI n1 20 (fun _ => 0), arC cI n2 20 (fun _ => 0), arC cI n3 20 (fun _ => 0)]) := hD
  refine lv_aload_n hx hb dX3_init_28 rfl (lv_at hl 0 rfl) ?_
  refine lv_iconst (v := 0) hx hb dX3_init_29 (by decide) ?_
  refine va_put (D := D) (ci := 3) (v := .int 0) (ty := .int) (C := RX3) (T := TX3) (N := 4) hx hb hts hinX3 tyX3 tyX3_ok nmX3 hown hK hP hD hS 0 rfl rfl 3 (by decide) (hts (.fieldLink RX3 21 "RibbonBalloons$Notes" "size" "I") (by decide +kernel)) (fun _ h9 => h9) rfl (by decide +kernel) rfl rfl (Nat.le_of_ble_eq_true rfl) dX3_init_30 (fun H locs hP hD hS => ?_)
  have hP : va_P D vwCl (List.flatten [obC n0 3 [.ref n1, .ref n2, .ref n3, .int 0], arC cI n1 20 (fun _ => 0), arC cI n2 20 (fun _ => 0), arC cI n3 20 (fun _ => 0)]) _ := hP
  have hD : va_D A (List.flatten [obC n0 3 [.ref n1, .ref n2, .ref n3, .int 0], arC cI n1 20 (fun _ => 0), arC cI n2 20 (fun _ => 0), arC cI n3 20 (fun _ => 0)]) := hD
  have hP : va_P D vwCl (List.flatten [ntX cI n0 n1 n2 n3 (fun _ => 0) (fun _ => 0) (fun _ => 0) 0]) _ := hP
  have hD : va_D A (List.flatten [ntX cI n0 n1 n2 n3 (fun _ => 0) (fun _ => 0) (fun _ => 0) 0]) := hD
  exact hend (n1, n2, n3) _ _ _ _ trivial hP hD hS dX3_init_33

set_option maxHeartbeats 4000000 in
set_option maxRecDepth 100000 in
theorem c_X5_init (l : Launch) (D : va_G) (cI cZ cS cJ : ClassId) (t0 : Nat)  : CE (U := (Nat)) l yX5_init wsX5_init ({ frames := 1, cells := 1, slots := 60, locals := 12 }) D (tyL cI cZ cS cJ) [.ref t0] (List.flatten [obC t0 5 [.null, .int 0]]) (fun u => True) (fun u => none) (fun u => List.flatten [txC cI t0 u (fun _ => 0) 0]) 1 60 := by
  refine CE_void (cc := cX5_init) (maxL := 1) (by decide) rfl (Nat.le_of_ble_eq_true rfl) ?_
  intro p e s m below meth c A ls Q X hnm hK hP hD hS hA hl hend
  have X : CallFix p m c cX5_init 1 s ([.ref t0] : List Value).toArray wsX5_init RX5 := X
  obtain ⟨hx, hb, hml, hown, hts⟩ := id X
  have hl : lv_has ls 1 [(0, .ref t0)] := hl
  have hinX5 : ∀ w ∈ u_ws RX5 TX5 2, w ∈ wsX5_init := by decide +kernel
  refine lv_aload_n hx hb dX5_init_0 rfl (lv_at hl 0 rfl) ?_
  refine W.objInit hx hb hown (hts (.methodLink RX5 3 objectInit) (by decide +kernel)) (hts (.instanceMethod objectInit) (by decide +kernel)) (hts (.code objectInit ⟨#[0xb1]⟩ 1 none) (by decide +kernel)) rfl (by rw [hml]; exact hl.1) rfl dX5_init_1 (Nat.le_of_ble_eq_true rfl) (Nat.le_of_ble_eq_true rfl) ?_
  refine W.eq (g2 := F0 m 4 ls []) rfl ?_
  refine lv_aload_n hx hb dX5_init_4 rfl (lv_at hl 0 rfl) ?_
  refine lv_bipush (v := 60) hx hb dX5_init_5 (by decide) ?_
  refine r_newI (N := 60) hx hb (hts (.arrayClass .int) (by decide +kernel)) hK hP hD hS hA (by decide) (by decide) (by decide) (Nat.le_of_ble_eq_true rfl) (Nat.le_of_ble_eq_true rfl) dX5_init_7 (fun t1 H hP hD hS => ?_)
  have hP : va_P D vwCl (List.flatten [obC t0 5 [.null, .int 0], arC cI t1 60 (fun _ => 0)]) _ := hP
  have hD : va_D A (List.flatten [obC t0 5 [.null, .int 0], arC cI t1 60 (fun _ => 0)]) := hD
  refine va_putF (D := D) (ci := 5) (v := .ref t1) (ty := (.array .int)) (C := RX5) (T := TX5) (N := 2) hx hb hts hinX5 tyX5 tyX5_ok nmX5 hown hK hP hD hS 0 rfl rfl 0 (by decide) (hts (.fieldLink RX5 9 "RibbonBalloons$Text" "codes" "[I") (by decide +kernel)) (fun _ h9 => h9) rfl hnm rfl (by decide +kernel) rfl rfl (Nat.le_of_ble_eq_true rfl) dX5_init_9 (fun H locs hP hD hS => ?_)
  have hP : va_P D vwCl (List.flatten [obC t0 5 [.ref t1, .int 0], arC cI t1 60 (fun _ => 0)]) _ := hP
  have hD : va_D A (List.flatten [obC t0 5 [.ref t1, .int 0], arC cI t1 60 (fun _ => 0)]) := hD
  refine lv_aload_n hx hb dX5_init_12 rfl (lv_at hl 0 rfl) ?_
  refine lv_iconst (v := 0) hx hb dX5_init_13 (by decide) ?_
  refine va_put (D := D) (ci := 5) (v := .int 0) (ty := .int) (C := RX5) (T := TX5) (N := 2) hx hb hts hinX5 tyX5 tyX5_ok nmX5 hown hK hP hD hS 0 rfl rfl 1 (by decide) (hts (.fieldLink RX5 15 "RibbonBalloons$Text" "length" "I") (by decide +kernel)) (fun _ h9 => h9) rfl (by decide +kernel) rfl rfl (Nat.le_of_ble_eq_true rfl) dX5_init_14 (fun H locs hP hD hS => ?_)
  have hP : va_P D vwCl (List.flatten [obC t0 5 [.ref t1, .int 0], arC cI t1 60 (fun _ => 0)]) _ := hP
  have hD : va_D A (List.flatten [obC t0 5 [.ref t1, .int 0], arC cI t1 60 (fun _ => 0)]) := hD
  have hP : va_P D vwCl (List.flatten [txC cI t0 t1 (fun _ => 0) 0]) _ := hP
  have hD : va_D A (List.flatten [txC cI t0 t1 (fun _ => 0) 0]) := hD
  exact hend (t1) _ _ _ _ trivial hP hD hS dX5_init_17

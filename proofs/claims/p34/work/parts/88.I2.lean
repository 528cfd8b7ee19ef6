set_option maxHeartbeats 4000000 in
set_option maxRecDepth 100000 in
theorem c_X0_init (l : Launch) (D : va_G) (cI cZ cS cJ : ClassId) (a0 : Nat)  : CE (U := (Nat) × (Nat) × (Nat) × (Nat) × (Nat) × (Nat) × (Nat)) l yX0_init wsX0_init ({ frames := 3, cells := 7, slots := 53, locals := 65 }) D (tyL cI cZ cS cJ) [.ref a0] (List.flatten [obC a0 0 [.null, .null, .null, .null, .null, .null, .null]]) (fun u => True) (fun u => none) (fun u => List.flatten [flX cI cZ a0 u.1 u.2.1 u.2.2.1 u.2.2.2.1 u.2.2.2.2.1 u.2.2.2.2.2.1 u.2.2.2.2.2.2 (init0 0) (init0 1) (init0 2) (init0 3) (init0 4) (init0 5) (ht init0)]) 7 53 := by
  refine CE_void (cc := cX0_init) (maxL := 2) (by decide) rfl (Nat.le_of_ble_eq_true rfl) ?_
  intro p e s m below meth c A ls Q X hnm hK hP hD hS hA hl hend
  have X : CallFix p m c cX0_init 2 s ([.ref a0] : List Value).toArray wsX0_init RX0 := X
  obtain ⟨hx, hb, hml, hown, hts⟩ := id X
  have hl : lv_has ls 2 [(0, .ref a0)] := hl
  have hinX0 : ∀ w ∈ u_ws RX0 TX0 7, w ∈ wsX0_init := by decide +kernel
  refine lv_aload_n hx hb dX0_init_0 rfl (lv_at hl 0 rfl) ?_
  refine W.objInit hx hb hown (hts (.methodLink RX0 3 objectInit) (by decide +kernel)) (hts (.instanceMethod objectInit) (by decide +kernel)) (hts (.code objectInit ⟨#[0xb1]⟩ 1 none) (by decide +kernel)) rfl (by rw [hml]; exact hl.1) rfl dX0_init_1 (Nat.le_of_ble_eq_true rfl) (Nat.le_of_ble_eq_true rfl) ?_
  refine W.eq (g2 := F0 m 4 ls []) rfl ?_
  refine lv_aload_n hx hb dX0_init_4 rfl (lv_at hl 0 rfl) ?_
  refine lv_bipush (v := 8) hx hb dX0_init_5 (by decide) ?_
  refine r_newI (N := 8) hx hb (hts (.arrayClass .int) (by decide +kernel)) hK hP hD hS hA (by decide) (by decide) (by decide) (Nat.le_of_ble_eq_true rfl) (Nat.le_of_ble_eq_true rfl) dX0_init_7 (fun a1 H hP hD hS => ?_)
  have hP : va_P D vwCl (List.flatten [obC a0 0 [.null, .null, .null, .null, .null, .null, .null], arC cI a1 8 (fun _ => 0)]) _ := hP
  have hD : va_D A (List.flatten [obC a0 0 [.null, .null, .null, .null, .null, .null, .null], arC cI a1 8 (fun _ => 0)]) := hD
  refine va_putF (D := D) (ci := 0) (v := .ref a1) (ty := (.array .int)) (C := RX0) (T := TX0) (N := 7) hx hb hts hinX0 tyX0 tyX0_ok nmX0 hown hK hP hD hS 0 rfl rfl 0 (by decide) (hts (.fieldLink RX0 9 "RibbonBalloons$Flock" "gas" "[I") (by decide +kernel)) (fun _ h9 => h9) rfl hnm rfl (by decide +kernel) rfl rfl (Nat.le_of_ble_eq_true rfl) dX0_init_9 (fun H locs hP hD hS => ?_)
  have hP : va_P D vwCl (List.flatten [obC a0 0 [.ref a1, .null, .null, .null, .null, .null, .null], arC cI a1 8 (fun _ => 0)]) _ := hP
  have hD : va_D A (List.flatten [obC a0 0 [.ref a1, .null, .null, .null, .null, .null, .null], arC cI a1 8 (fun _ => 0)]) := hD
  refine lv_aload_n hx hb dX0_init_12 rfl (lv_at hl 0 rfl) ?_
  refine lv_bipush (v := 8) hx hb dX0_init_13 (by decide) ?_
  refine r_newI (N := 8) hx hb (hts (.arrayClass .int) (by decide +kernel)) hK hP hD hS hA (by decide) (by decide) (by decide) (Nat.le_of_ble_eq_true rfl) (Nat.le_of_ble_eq_true rfl) dX0_init_15 (fun a2 H hP hD hS => ?_)
  have hP : va_P D vwCl (List.flatten [obC a0 0 [.ref a1, .null, .null, .null, .null, .null, .null], arC cI a1 8 (fun _ => 0), arC cI a2 8 (fun _ => 0)]) _ := hP
  have hD : va_D A (List.flatten [obC a0 0 [.ref a1, .null, .null, .null, .null, .null, .null], arC cI a1 8 (fun _ => 0), arC cI a2 8 (fun _ => 0)]) := hD
  refine va_putF (D := D) (ci := 0) (v := .ref a2) (ty := (.array .int)) (C := RX0) (T := TX0) (N := 7) hx hb hts hinX0 tyX0 tyX0_ok nmX0 hown hK hP hD hS 0 rfl rfl 1 (by decide) (hts (.fieldLink RX0 15 "RibbonBalloons$Flock" "bags" "[I") (by decide +kernel)) (fun _ h9 => h9) rfl hnm rfl (by decide +kernel) rfl rfl (Nat.le_of_ble_eq_true rfl) dX0_init_17 (fun H locs hP hD hS => ?_)
  have hP : va_P D vwCl (List.flatten [obC a0 0 [.ref a1, .ref a2, .null, .null, .null, .null, .null], arC cI a1 8 (fun _ => 0), arC cI a2 8 (fun _ => 0)]) _ := hP
  have hD : va_D A (List.flatten [obC a0 0 [.ref a1, .ref a2, .null, .null, .null, .null, .null], arC cI a1 8 (fun _ => 0), arC cI a2 8 (fun _ => 0)]) := hD
  refine lv_aload_n hx hb dX0_init_20 rfl (lv_at hl 0 rfl) ?_
  refine lv_bipush (v := 8) hx hb dX0_init_21 (by decide) ?_
  refine r_newI (N := 8) hx hb (hts (.arrayClass .int) (by decide +kernel)) hK hP hD hS hA (by decide) (by decide) (by decide) (Nat.le_of_ble_eq_true rfl) (Nat.le_of_ble_eq_true rfl) dX0_init_23 (fun a3 H hP hD hS => ?_)
  have hP : va_P D vwCl (List.flatten [obC a0 0 [.ref a1, .ref a2, .null, .null, .null, .null, .null], arC cI a1 8 (fun _ => 0), arC cI a2 8 (fun _ => 0), arC cI a3 8 (fun _ => 0)]) _ := hP
  have hD : va_D A (List.flatten [obC a0 0 [.ref a1, .ref a2, .null, .null, .null, .null, .null], arC cI a1 8 (fun _ => 0), arC cI a2 8 (fun _ => 0), arC cI a3 8 (fun _ => 0)]) := hD
  refine va_putF (D := D) (ci := 0) (v := .ref a3) (ty := (.array .int)) (C := RX0) (T := TX0) (N := 7) hx hb hts hinX0 tyX0 tyX0_ok nmX0 hown hK hP hD hS 0 rfl rfl 2 (by decide) (hts (.fieldLink RX0 18 "RibbonBalloons$Flock" "leaks" "[I") (by decide +kernel)) (fun _ h9 => h9) rfl hnm rfl (by decide +kernel) rfl rfl (Nat.le_of_ble_eq_true rfl) dX0_init_25 (fun H locs hP hD hS => ?_)
  have hP : va_P D vwCl (List.flatten [obC a0 0 [.ref a1, .ref a2, .ref a3, .null, .null, .null, .null], arC cI a1 8 (fun _ => 0), arC cI a2 8 (fun _ => 0), arC cI a3 8 (fun _ => 0)]) _ := hP
  have hD : va_D A (List.flatten [obC a0 0 [.ref a1, .ref a2, .ref a3, .null, .null, .null, .null], arC cI a1 8 (fun _ => 0), arC cI a2 8 (fun _ => 0), arC cI a3 8 (fun _ => 0)]) := hD
  refine lv_aload_n hx hb dX0_init_28 rfl (lv_at hl 0 rfl) ?_
  refine lv_bipush (v := 7) hx hb dX0_init_29 (by decide) ?_
  refine r_newZ (N := 7) hx hb (hts (.arrayClass .boolean) (by decide +kernel)) hK hP hD hS hA (by decide) (by decide) (by decide) (Nat.le_of_ble_eq_true rfl) (Nat.le_of_ble_eq_true rfl) dX0_init_31 (fun a4 H hP hD hS => ?_)
  have hP : va_P D vwCl (List.flatten [obC a0 0 [.ref a1, .ref a2, .ref a3, .null, .null, .null, .null], arC cI a1 8 (fun _ => 0), arC cI a2 8 (fun _ => 0), arC cI a3 8 (fun _ => 0), arC cZ a4 7 (fun _ => 0)]) _ := hP
  have hD : va_D A (List.flatten [obC a0 0 [.ref a1, .ref a2, .ref a3, .null, .null, .null, .null], arC cI a1 8 (fun _ => 0), arC cI a2 8 (fun _ => 0), arC cI a3 8 (fun _ => 0), arC cZ a4 7 (fun _ => 0)]) := hD
  refine va_putF (D := D) (ci := 0) (v := .ref a4) (ty := (.array .boolean)) (C := RX0) (T := TX0) (N := 7) hx hb hts hinX0 tyX0 tyX0_ok nmX0 hown hK hP hD hS 0 rfl rfl 3 (by decide) (hts (.fieldLink RX0 21 "RibbonBalloons$Flock" "tied" "[Z") (by decide +kernel)) (fun _ h9 => h9) rfl hnm rfl (by decide +kernel) rfl rfl (Nat.le_of_ble_eq_true rfl) dX0_init_33 (fun H locs hP hD hS => ?_)
  have hP : va_P D vwCl (List.flatten [obC a0 0 [.ref a1, .ref a2, .ref a3, .ref a4, .null, .null, .null], arC cI a1 8 (fun _ => 0), arC cI a2 8 (fun _ => 0), arC cI a3 8 (fun _ => 0), arC cZ a4 7 (fun _ => 0)]) _ := hP
  have hD : va_D A (List.flatten [obC a0 0 [.ref a1, .ref a2, .ref a3, .ref a4, .null, .null, .null], arC cI a1 8 (fun _ => 0), arC cI a2 8 (fun _ => 0), arC cI a3 8 (fun _ => 0), arC cZ a4 7 (fun _ => 0)]) := hD
  refine lv_aload_n hx hb dX0_init_36 rfl (lv_at hl 0 rfl) ?_
  refine lv_bipush (v := 7) hx hb dX0_init_37 (by decide) ?_
  refine r_newI (N := 7) hx hb (hts (.arrayClass .int) (by decide +kernel)) hK hP hD hS hA (by decide) (by decide) (by decide) (Nat.le_of_ble_eq_true rfl) (Nat.le_of_ble_eq_true rfl) dX0_init_39 (fun a5 H hP hD hS => ?_)
  have hP : va_P D vwCl (List.flatten [obC a0 0 [.ref a1, .ref a2, .ref a3, .ref a4, .null, .null, .null], arC cI a1 8 (fun _ => 0), arC cI a2 8 (fun _ => 0), arC cI a3 8 (fun _ => 0), arC cZ a4 7 (fun _ => 0), arC cI a5 7 (fun _ => 0)]) _ := hP
  have hD : va_D A (List.flatten [obC a0 0 [.ref a1, .ref a2, .ref a3, .ref a4, .null, .null, .null], arC cI a1 8 (fun _ => 0), arC cI a2 8 (fun _ => 0), arC cI a3 8 (fun _ => 0), arC cZ a4 7 (fun _ => 0), arC cI a5 7 (fun _ => 0)]) := hD
  refine va_putF (D := D) (ci := 0) (v := .ref a5) (ty := (.array .int)) (C := RX0) (T := TX0) (N := 7) hx hb hts hinX0 tyX0 tyX0_ok nmX0 hown hK hP hD hS 0 rfl rfl 4 (by decide) (hts (.fieldLink RX0 25 "RibbonBalloons$Flock" "lengths" "[I") (by decide +kernel)) (fun _ h9 => h9) rfl hnm rfl (by decide +kernel) rfl rfl (Nat.le_of_ble_eq_true rfl) dX0_init_41 (fun H locs hP hD hS => ?_)
  have hP : va_P D vwCl (List.flatten [obC a0 0 [.ref a1, .ref a2, .ref a3, .ref a4, .ref a5, .null, .null], arC cI a1 8 (fun _ => 0), arC cI a2 8 (fun _ => 0), arC cI a3 8 (fun _ => 0), arC cZ a4 7 (fun _ => 0), arC cI a5 7 (fun _ => 0)]) _ := hP
  have hD : va_D A (List.flatten [obC a0 0 [.ref a1, .ref a2, .ref a3, .ref a4, .ref a5, .null, .null], arC cI a1 8 (fun _ => 0), arC cI a2 8 (fun _ => 0), arC cI a3 8 (fun _ => 0), arC cZ a4 7 (fun _ => 0), arC cI a5 7 (fun _ => 0)]) := hD
  refine lv_aload_n hx hb dX0_init_44 rfl (lv_at hl 0 rfl) ?_
  refine lv_bipush (v := 7) hx hb dX0_init_45 (by decide) ?_
  refine r_newI (N := 7) hx hb (hts (.arrayClass .int) (by decide +kernel)) hK hP hD hS hA (by decide) (by decide) (by decide) (Nat.le_of_ble_eq_true rfl) (Nat.le_of_ble_eq_true rfl) dX0_init_47 (fun a6 H hP hD hS => ?_)
  have hP : va_P D vwCl (List.flatten [obC a0 0 [.ref a1, .ref a2, .ref a3, .ref a4, .ref a5, .null, .null], arC cI a1 8 (fun _ => 0), arC cI a2 8 (fun _ => 0), arC cI a3 8 (fun _ => 0), arC cZ a4 7 (fun _ => 0), arC cI a5 7 (fun _ => 0), arC cI a6 7 (fun _ => 0)]) _ := hP
  have hD : va_D A (List.flatten [obC a0 0 [.ref a1, .ref a2, .ref a3, .ref a4, .ref a5, .null, .null], arC cI a1 8 (fun _ => 0), arC cI a2 8 (fun _ => 0), arC cI a3 8 (fun _ => 0), arC cZ a4 7 (fun _ => 0), arC cI a5 7 (fun _ => 0), arC cI a6 7 (fun _ => 0)]) := hD
  refine va_putF (D := D) (ci := 0) (v := .ref a6) (ty := (.array .int)) (C := RX0) (T := TX0) (N := 7) hx hb hts hinX0 tyX0 tyX0_ok nmX0 hown hK hP hD hS 0 rfl rfl 5 (by decide) (hts (.fieldLink RX0 28 "RibbonBalloons$Flock" "bears" "[I") (by decide +kernel)) (fun _ h9 => h9) rfl hnm rfl (by decide +kernel) rfl rfl (Nat.le_of_ble_eq_true rfl) dX0_init_49 (fun H locs hP hD hS => ?_)
  have hP : va_P D vwCl (List.flatten [obC a0 0 [.ref a1, .ref a2, .ref a3, .ref a4, .ref a5, .ref a6, .null], arC cI a1 8 (fun _ => 0), arC cI a2 8 (fun _ => 0), arC cI a3 8 (fun _ => 0), arC cZ a4 7 (fun _ => 0), arC cI a5 7 (fun _ => 0), arC cI a6 7 (fun _ => 0)]) _ := hP
  have hD : va_D A (List.flatten [obC a0 0 [.ref a1, .ref a2, .ref a3, .ref a4, .ref a5, .ref a6, .null], arC cI a1 8 (fun _ => 0), arC cI a2 8 (fun _ => 0), arC cI a3 8 (fun _ => 0), arC cZ a4 7 (fun _ => 0), arC cI a5 7 (fun _ => 0), arC cI a6 7 (fun _ => 0)]) := hD
  refine lv_aload_n hx hb dX0_init_52 rfl (lv_at hl 0 rfl) ?_
  refine lv_bipush (v := 8) hx hb dX0_init_53 (by decide) ?_
  refine r_newI (N := 8) hx hb (hts (.arrayClass .int) (by decide +kernel)) hK hP hD hS hA (by decide) (by decide) (by decide) (Nat.le_of_ble_eq_true rfl) (Nat.le_of_ble_eq_true rfl) dX0_init_55 (fun a7 H hP hD hS => ?_)
  have hP : va_P D vwCl (List.flatten [obC a0 0 [.ref a1, .ref a2, .ref a3, .ref a4, .ref a5, .ref a6, .null], arC cI a1 8 (fun _ => 0), arC cI a2 8 (fun _ => 0), arC cI a3 8 (fun _ => 0), arC cZ a4 7 (fun _ => 0), arC cI a5 7 (fun _ => 0), arC cI a6 7 (fun _ => 0), arC cI a7 8 (fun _ => 0)]) _ := hP
  have hD : va_D A (List.flatten [obC a0 0 [.ref a1, .ref a2, .ref a3, .ref a4, .ref a5, .ref a6, .null], arC cI a1 8 (fun _ => 0), arC cI a2 8 (fun _ => 0), arC cI a3 8 (fun _ => 0), arC cZ a4 7 (fun _ => 0), arC cI a5 7 (fun _ => 0), arC cI a6 7 (fun _ => 0), arC cI a7 8 (fun _ => 0)]) := hD
  refine va_putF (D := D) (ci := 0) (v := .ref a7) (ty := (.array .int)) (C := RX0) (T := TX0) (N := 7) hx hb hts hinX0 tyX0 tyX0_ok nmX0 hown hK hP hD hS 0 rfl rfl 6 (by decide) (hts (.fieldLink RX0 31 "RibbonBalloons$Flock" "heights" "[I") (by decide +kernel)) (fun _ h9 => h9) rfl hnm rfl (by decide +kernel) rfl rfl (Nat.le_of_ble_eq_true rfl) dX0_init_57 (fun H locs hP hD hS => ?_)
  have hP : va_P D vwCl (List.flatten [obC a0 0 [.ref a1, .ref a2, .ref a3, .ref a4, .ref a5, .ref a6, .ref a7], arC cI a1 8 (fun _ => 0), arC cI a2 8 (fun _ => 0), arC cI a3 8 (fun _ => 0), arC cZ a4 7 (fun _ => 0), arC cI a5 7 (fun _ => 0), arC cI a6 7 (fun _ => 0), arC cI a7 8 (fun _ => 0)]) _ := hP
  have hD : va_D A (List.flatten [obC a0 0 [.ref a1, .ref a2, .ref a3, .ref a4, .ref a5, .ref a6, .ref a7], arC cI a1 8 (fun _ => 0), arC cI a2 8 (fun _ => 0), arC cI a3 8 (fun _ => 0), arC cZ a4 7 (fun _ => 0), arC cI a5 7 (fun _ => 0), arC cI a6 7 (fun _ => 0), arC cI a7 8 (fun _ => 0)]) := hD
  refine lv_aload_n hx hb dX0_init_60 rfl (lv_at hl 0 rfl) ?_
  refine va_get (D := D) (ci := 0) (v := .ref a1) (C := RX0) (T := TX0) (N := 7) hx hb hts hinX0 hown hK hP 0 rfl rfl 0 (by decide) (hts (.fieldLink RX0 9 "RibbonBalloons$Flock" "gas" "[I") (by decide +kernel)) (fun _ h9 => h9) rfl dX0_init_61 ?_
  refine lv_bipush (v := 60) hx hb dX0_init_64 (by decide) ?_
  refine kcallS (As := [.ref a1, .int 60]) (rest := []) (Wn := [obC a0 0 [.ref a1, .ref a2, .ref a3, .ref a4, .ref a5, .ref a6, .ref a7], arC cI a1 8 (fun _ => 60), arC cI a2 8 (fun _ => 0), arC cI a3 8 (fun _ => 0), arC cZ a4 7 (fun _ => 0), arC cI a5 7 (fun _ => 0), arC cI a6 7 (fun _ => 0), arC cI a7 8 (fun _ => 0)]) X (c_J7_fill_53178 l D cI cZ cS cJ a1 8 (fun _ => 0) 60 (by omega)) (va_cwS 2 hts gX0_init_J7_fill_53178 rfl rfl rfl (by decide +kernel) ⟨Nat.le_of_ble_eq_true rfl, Nat.le_of_ble_eq_true rfl⟩) hK hP hD hS hA [1] rfl (by decide +kernel) rfl rfl rfl rfl hl.1 rfl (Nat.le_of_ble_eq_true rfl) dX0_init_66 ⟨Nat.le_of_ble_eq_true rfl, Nat.le_of_ble_eq_true rfl⟩ (fun H locs hP hD hS => ?_)
  refine lv_aload_n hx hb dX0_init_69 rfl (lv_at hl 0 rfl) ?_
  refine va_get (D := D) (ci := 0) (v := .ref a2) (C := RX0) (T := TX0) (N := 7) hx hb hts hinX0 hown hK hP 0 rfl rfl 1 (by decide) (hts (.fieldLink RX0 15 "RibbonBalloons$Flock" "bags" "[I") (by decide +kernel)) (fun _ h9 => h9) rfl dX0_init_70 ?_
  refine lv_iconst (v := 4) hx hb dX0_init_73 (by decide) ?_
  refine kcallS (As := [.ref a2, .int 4]) (rest := []) (Wn := [obC a0 0 [.ref a1, .ref a2, .ref a3, .ref a4, .ref a5, .ref a6, .ref a7], arC cI a1 8 (fun _ => 60), arC cI a2 8 (fun _ => 4), arC cI a3 8 (fun _ => 0), arC cZ a4 7 (fun _ => 0), arC cI a5 7 (fun _ => 0), arC cI a6 7 (fun _ => 0), arC cI a7 8 (fun _ => 0)]) X (c_J7_fill_53178 l D cI cZ cS cJ a2 8 (fun _ => 0) 4 (by omega)) (va_cwS 2 hts gX0_init_J7_fill_53178 rfl rfl rfl (by decide +kernel) ⟨Nat.le_of_ble_eq_true rfl, Nat.le_of_ble_eq_true rfl⟩) hK hP hD hS hA [2] rfl (by decide +kernel) rfl rfl rfl rfl hl.1 rfl (Nat.le_of_ble_eq_true rfl) dX0_init_74 ⟨Nat.le_of_ble_eq_true rfl, Nat.le_of_ble_eq_true rfl⟩ (fun H locs hP hD hS => ?_)
  refine lv_aload_n hx hb dX0_init_77 rfl (lv_at hl 0 rfl) ?_
  refine va_get (D := D) (ci := 0) (v := .ref a3) (C := RX0) (T := TX0) (N := 7) hx hb hts hinX0 hown hK hP 0 rfl rfl 2 (by decide) (hts (.fieldLink RX0 18 "RibbonBalloons$Flock" "leaks" "[I") (by decide +kernel)) (fun _ h9 => h9) rfl dX0_init_78 ?_
  refine lv_iconst (v := 1) hx hb dX0_init_81 (by decide) ?_
  refine kcallS (As := [.ref a3, .int 1]) (rest := []) (Wn := [obC a0 0 [.ref a1, .ref a2, .ref a3, .ref a4, .ref a5, .ref a6, .ref a7], arC cI a1 8 (fun _ => 60), arC cI a2 8 (fun _ => 4), arC cI a3 8 (fun _ => 1), arC cZ a4 7 (fun _ => 0), arC cI a5 7 (fun _ => 0), arC cI a6 7 (fun _ => 0), arC cI a7 8 (fun _ => 0)]) X (c_J7_fill_53178 l D cI cZ cS cJ a3 8 (fun _ => 0) 1 (by omega)) (va_cwS 2 hts gX0_init_J7_fill_53178 rfl rfl rfl (by decide +kernel) ⟨Nat.le_of_ble_eq_true rfl, Nat.le_of_ble_eq_true rfl⟩) hK hP hD hS hA [3] rfl (by decide +kernel) rfl rfl rfl rfl hl.1 rfl (Nat.le_of_ble_eq_true rfl) dX0_init_82 ⟨Nat.le_of_ble_eq_true rfl, Nat.le_of_ble_eq_true rfl⟩ (fun H locs hP hD hS => ?_)
  refine lv_iconst (v := 0) hx hb dX0_init_85 (by decide) ?_
  refine lv_istore_n (lv' := [(1, .int 0), (0, .ref a0)]) hx hb dX0_init_86 rfl hl (by decide) rfl (fun ls hl => ?_)
  refine lv_iload_n hx hb dX0_init_87 rfl (lv_at hl 0 rfl) ?_
  refine lv_bipush (v := 7) hx hb dX0_init_88 (by decide) ?_
  refine lv_icmp_ge (tgt := 106) hx hb dX0_init_90 (by decide) (fun h => absurd h (by decide)) (fun _ => ?_)
  refine lv_aload_n hx hb dX0_init_93 rfl (lv_at hl 1 rfl) ?_
  refine va_get (D := D) (ci := 0) (v := .ref a4) (C := RX0) (T := TX0) (N := 7) hx hb hts hinX0 hown hK hP 0 rfl rfl 3 (by decide) (hts (.fieldLink RX0 21 "RibbonBalloons$Flock" "tied" "[Z") (by decide +kernel)) (fun _ h9 => h9) rfl dX0_init_94 ?_
  refine lv_iload_n hx hb dX0_init_97 rfl (lv_at hl 0 rfl) ?_
  refine lv_iconst (v := 1) hx hb dX0_init_98 (by decide) ?_
  refine r_zast hx hb hK hP hD hS 4 1 0 (f := (fun _ => 0)) (x := 1) (wn := List.flatten [obC a0 0 [.ref a1, .ref a2, .ref a3, .ref a4, .ref a5, .ref a6, .ref a7], arC cI a1 8 (fun _ => 60), arC cI a2 8 (fun _ => 4), arC cI a3 8 (fun _ => 1), arC cZ a4 7 (upd (fun _ => 0) 0 1), arC cI a5 7 (fun _ => 0), arC cI a6 7 (fun _ => 0), arC cI a7 8 (fun _ => 0)]) rfl rfl (by omega) (by omega) rfl rfl dX0_init_99 (fun H locs hP hD hS => ?_)
  refine lv_iinc (v := 1) (lv' := [(1, .int 1), (0, .ref a0)]) hx hb dX0_init_100 hl (k := 0) rfl (by decide) (by decide) rfl (fun ls hl => ?_)
  refine lv_goto (tgt := 87) hx hb dX0_init_103 (by decide) ?_
  refine lv_iload_n hx hb dX0_init_87 rfl (lv_at hl 0 rfl) ?_
  refine lv_bipush (v := 7) hx hb dX0_init_88 (by decide) ?_
  refine lv_icmp_ge (tgt := 106) hx hb dX0_init_90 (by decide) (fun h => absurd h (by decide)) (fun _ => ?_)
  refine lv_aload_n hx hb dX0_init_93 rfl (lv_at hl 1 rfl) ?_
  refine va_get (D := D) (ci := 0) (v := .ref a4) (C := RX0) (T := TX0) (N := 7) hx hb hts hinX0 hown hK hP 0 rfl rfl 3 (by decide) (hts (.fieldLink RX0 21 "RibbonBalloons$Flock" "tied" "[Z") (by decide +kernel)) (fun _ h9 => h9) rfl dX0_init_94 ?_
  refine lv_iload_n hx hb dX0_init_97 rfl (lv_at hl 0 rfl) ?_
  refine lv_iconst (v := 1) hx hb dX0_init_98 (by decide) ?_
  refine r_zast hx hb hK hP hD hS 4 1 1 (f := upd (fun _ => 0) 0 1) (x := 1) (wn := List.flatten [obC a0 0 [.ref a1, .ref a2, .ref a3, .ref a4, .ref a5, .ref a6, .ref a7], arC cI a1 8 (fun _ => 60), arC cI a2 8 (fun _ => 4), arC cI a3 8 (fun _ => 1), arC cZ a4 7 (upd (upd (fun _ => 0) 0 1) 1 1), arC cI a5 7 (fun _ => 0), arC cI a6 7 (fun _ => 0), arC cI a7 8 (fun _ => 0)]) rfl rfl (by omega) (by omega) rfl rfl dX0_init_99 (fun H locs hP hD hS => ?_)
  refine lv_iinc (v := 2) (lv' := [(1, .int 2), (0, .ref a0)]) hx hb dX0_init_100 hl (k := 0) rfl (by decide) (by decide) rfl (fun ls hl => ?_)
  refine lv_goto (tgt := 87) hx hb dX0_init_103 (by decide) ?_
  refine lv_iload_n hx hb dX0_init_87 rfl (lv_at hl 0 rfl) ?_
  refine lv_bipush (v := 7) hx hb dX0_init_88 (by decide) ?_
  refine lv_icmp_ge (tgt := 106) hx hb dX0_init_90 (by decide) (fun h => absurd h (by decide)) (fun _ => ?_)
  refine lv_aload_n hx hb dX0_init_93 rfl (lv_at hl 1 rfl) ?_
  refine va_get (D := D) (ci := 0) (v := .ref a4) (C := RX0) (T := TX0) (N := 7) hx hb hts hinX0 hown hK hP 0 rfl rfl 3 (by decide) (hts (.fieldLink RX0 21 "RibbonBalloons$Flock" "tied" "[Z") (by decide +kernel)) (fun _ h9 => h9) rfl dX0_init_94 ?_
  refine lv_iload_n hx hb dX0_init_97 rfl (lv_at hl 0 rfl) ?_
  refine lv_iconst (v := 1) hx hb dX0_init_98 (by decide) ?_
  refine r_zast hx hb hK hP hD hS 4 1 2 (f := upd (upd (fun _ => 0) 0 1) 1 1) (x := 1) (wn := List.flatten [obC a0 0 [.ref a1, .ref a2, .ref a3, .ref a4, .ref a5, .ref a6, .ref a7], arC cI a1 8 (fun _ => 60), arC cI a2 8 (fun _ => 4), arC cI a3 8 (fun _ => 1), arC cZ a4 7 (upd (upd (upd (fun _ => 0) 0 1) 1 1) 2 1), arC cI a5 7 (fun _ => 0), arC cI a6 7 (fun _ => 0), arC cI a7 8 (fun _ => 0)]) rfl rfl (by omega) (by omega) rfl rfl dX0_init_99 (fun H locs hP hD hS => ?_)
  refine lv_iinc (v := 3) (lv' := [(1, .int 3), (0, .ref a0)]) hx hb dX0_init_100 hl (k := 0) rfl (by decide) (by decide) rfl (fun ls hl => ?_)
  refine lv_goto (tgt := 87) hx hb dX0_init_103 (by decide) ?_
  refine lv_iload_n hx hb dX0_init_87 rfl (lv_at hl 0 rfl) ?_
  refine lv_bipush (v := 7) hx hb dX0_init_88 (by decide) ?_
  refine lv_icmp_ge (tgt := 106) hx hb dX0_init_90 (by decide) (fun h => absurd h (by decide)) (fun _ => ?_)
  refine lv_aload_n hx hb dX0_init_93 rfl (lv_at hl 1 rfl) ?_
  refine va_get (D := D) (ci := 0) (v := .ref a4) (C := RX0) (T := TX0) (N := 7) hx hb hts hinX0 hown hK hP 0 rfl rfl 3 (by decide) (hts (.fieldLink RX0 21 "RibbonBalloons$Flock" "tied" "[Z") (by decide +kernel)) (fun _ h9 => h9) rfl dX0_init_94 ?_
  refine lv_iload_n hx hb dX0_init_97 rfl (lv_at hl 0 rfl) ?_
  refine lv_iconst (v := 1) hx hb dX0_init_98 (by decide) ?_
  refine r_zast hx hb hK hP hD hS 4 1 3 (f := upd (upd (upd (fun _ => 0) 0 1) 1 1) 2 1) (x := 1) (wn := List.flatten [obC a0 0 [.ref a1, .ref a2, .ref a3, .ref a4, .ref a5, .ref a6, .ref a7], arC cI a1 8 (fun _ => 60), arC cI a2 8 (fun _ => 4), arC cI a3 8 (fun _ => 1), arC cZ a4 7 (upd (upd (upd (upd (fun _ => 0) 0 1) 1 1) 2 1) 3 1), arC cI a5 7 (fun _ => 0), arC cI a6 7 (fun _ => 0), arC cI a7 8 (fun _ => 0)]) rfl rfl (by omega) (by omega) rfl rfl dX0_init_99 (fun H locs hP hD hS => ?_)
  refine lv_iinc (v := 4) (lv' := [(1, .int 4), (0, .ref a0)]) hx hb dX0_init_100 hl (k := 0) rfl (by decide) (by decide) rfl (fun ls hl => ?_)
  refine lv_goto (tgt := 87) hx hb dX0_init_103 (by decide) ?_
  refine lv_iload_n hx hb dX0_init_87 rfl (lv_at hl 0 rfl) ?_
  refine lv_bipush (v := 7) hx hb dX0_init_88 (by decide) ?_
  refine lv_icmp_ge (tgt := 106) hx hb dX0_init_90 (by decide) (fun h => absurd h (by decide)) (fun _ => ?_)
  refine lv_aload_n hx hb dX0_init_93 rfl (lv_at hl 1 rfl) ?_
  refine va_get (D := D) (ci := 0) (v := .ref a4) (C := RX0) (T := TX0) (N := 7) hx hb hts hinX0 hown hK hP 0 rfl rfl 3 (by decide) (hts (.fieldLink RX0 21 "RibbonBalloons$Flock" "tied" "[Z") (by decide +kernel)) (fun _ h9 => h9) rfl dX0_init_94 ?_
  refine lv_iload_n hx hb dX0_init_97 rfl (lv_at hl 0 rfl) ?_
  refine lv_iconst (v := 1) hx hb dX0_init_98 (by decide) ?_
  refine r_zast hx hb hK hP hD hS 4 1 4 (f := upd (upd (upd (upd (fun _ => 0) 0 1) 1 1) 2 1) 3 1) (x := 1) (wn := List.flatten [obC a0 0 [.ref a1, .ref a2, .ref a3, .ref a4, .ref a5, .ref a6, .ref a7], arC cI a1 8 (fun _ => 60), arC cI a2 8 (fun _ => 4), arC cI a3 8 (fun _ => 1), arC cZ a4 7 (upd (upd (upd (upd (upd (fun _ => 0) 0 1) 1 1) 2 1) 3 1) 4 1), arC cI a5 7 (fun _ => 0), arC cI a6 7 (fun _ => 0), arC cI a7 8 (fun _ => 0)]) rfl rfl (by omega) (by omega) rfl rfl dX0_init_99 (fun H locs hP hD hS => ?_)
  refine lv_iinc (v := 5) (lv' := [(1, .int 5), (0, .ref a0)]) hx hb dX0_init_100 hl (k := 0) rfl (by decide) (by decide) rfl (fun ls hl => ?_)
  refine lv_goto (tgt := 87) hx hb dX0_init_103 (by decide) ?_
  refine lv_iload_n hx hb dX0_init_87 rfl (lv_at hl 0 rfl) ?_
  refine lv_bipush (v := 7) hx hb dX0_init_88 (by decide) ?_
  refine lv_icmp_ge (tgt := 106) hx hb dX0_init_90 (by decide) (fun h => absurd h (by decide)) (fun _ => ?_)
  refine lv_aload_n hx hb dX0_init_93 rfl (lv_at hl 1 rfl) ?_
  refine va_get (D := D) (ci := 0) (v := .ref a4) (C := RX0) (T := TX0) (N := 7) hx hb hts hinX0 hown hK hP 0 rfl rfl 3 (by decide) (hts (.fieldLink RX0 21 "RibbonBalloons$Flock" "tied" "[Z") (by decide +kernel)) (fun _ h9 => h9) rfl dX0_init_94 ?_
  refine lv_iload_n hx hb dX0_init_97 rfl (lv_at hl 0 rfl) ?_
  refine lv_iconst (v := 1) hx hb dX0_init_98 (by decide) ?_
  refine r_zast hx hb hK hP hD hS 4 1 5 (f := upd (upd (upd (upd (upd (fun _ => 0) 0 1) 1 1) 2 1) 3 1) 4 1) (x := 1) (wn := List.flatten [obC a0 0 [.ref a1, .ref a2, .ref a3, .ref a4, .ref a5, .ref a6, .ref a7], arC cI a1 8 (fun _ => 60), arC cI a2 8 (fun _ => 4), arC cI a3 8 (fun _ => 1), arC cZ a4 7 (upd (upd (upd (upd (upd (upd (fun _ => 0) 0 1) 1 1) 2 1) 3 1) 4 1) 5 1), arC cI a5 7 (fun _ => 0), arC cI a6 7 (fun _ => 0), arC cI a7 8 (fun _ => 0)]) rfl rfl (by omega) (by omega) rfl rfl dX0_init_99 (fun H locs hP hD hS => ?_)
  refine lv_iinc (v := 6) (lv' := [(1, .int 6), (0, .ref a0)]) hx hb dX0_init_100 hl (k := 0) rfl (by decide) (by decide) rfl (fun ls hl => ?_)
  refine lv_goto (tgt := 87) hx hb dX0_init_103 (by decide) ?_
  refine lv_iload_n hx hb dX0_init_87 rfl (lv_at hl 0 rfl) ?_
  refine lv_bipush (v := 7) hx hb dX0_init_88 (by decide) ?_
  refine lv_icmp_ge (tgt := 106) hx hb dX0_init_90 (by decide) (fun h => absurd h (by decide)) (fun _ => ?_)
  refine lv_aload_n hx hb dX0_init_93 rfl (lv_at hl 1 rfl) ?_
  refine va_get (D := D) (ci := 0) (v := .ref a4) (C := RX0) (T := TX0) (N := 7) hx hb hts hinX0 hown hK hP 0 rfl rfl 3 (by decide) (hts (.fieldLink RX0 21 "RibbonBalloons$Flock" "tied" "[Z") (by decide +kernel)) (fun _ h9 => h9) rfl dX0_init_94 ?_
  refine lv_iload_n hx hb dX0_init_97 rfl (lv_at hl 0 rfl) ?_
  refine lv_iconst (v := 1) hx hb dX0_init_98 (by decide) ?_
  refine r_zast hx hb hK hP hD hS 4 1 6 (f := upd (upd (upd (upd (upd (upd (fun _ => 0) 0 1) 1 1) 2 1) 3 1) 4 1) 5 1) (x := 1) (wn := List.flatten [obC a0 0 [.ref a1, .ref a2, .ref a3, .ref a4, .ref a5, .ref a6, .ref a7], arC cI a1 8 (fun _ => 60), arC cI a2 8 (fun _ => 4), arC cI a3 8 (fun _ => 1), arC cZ a4 7 (upd (upd (upd (upd (upd (upd (upd (fun _ => 0) 0 1) 1 1) 2 1) 3 1) 4 1) 5 1) 6 1), arC cI a5 7 (fun _ => 0), arC cI a6 7 (fun _ => 0), arC cI a7 8 (fun _ => 0)]) rfl rfl (by omega) (by omega) rfl rfl dX0_init_99 (fun H locs hP hD hS => ?_)
  refine lv_iinc (v := 7) (lv' := [(1, .int 7), (0, .ref a0)]) hx hb dX0_init_100 hl (k := 0) rfl (by decide) (by decide) rfl (fun ls hl => ?_)
  refine lv_goto (tgt := 87) hx hb dX0_init_103 (by decide) ?_
  refine lv_iload_n hx hb dX0_init_87 rfl (lv_at hl 0 rfl) ?_
  refine lv_bipush (v := 7) hx hb dX0_init_88 (by decide) ?_
  refine lv_icmp_ge (tgt := 106) hx hb dX0_init_90 (by decide) (fun _ => ?_) (fun h => absurd (by decide) h)
  refine lv_aload_n hx hb dX0_init_106 rfl (lv_at hl 1 rfl) ?_
  refine va_get (D := D) (ci := 0) (v := .ref a5) (C := RX0) (T := TX0) (N := 7) hx hb hts hinX0 hown hK hP 0 rfl rfl 4 (by decide) (hts (.fieldLink RX0 25 "RibbonBalloons$Flock" "lengths" "[I") (by decide +kernel)) (fun _ h9 => h9) rfl dX0_init_107 ?_
  refine lv_bipush (v := 100) hx hb dX0_init_110 (by decide) ?_
  refine kcallS (As := [.ref a5, .int 100]) (rest := []) (Wn := [obC a0 0 [.ref a1, .ref a2, .ref a3, .ref a4, .ref a5, .ref a6, .ref a7], arC cI a1 8 (fun _ => 60), arC cI a2 8 (fun _ => 4), arC cI a3 8 (fun _ => 1), arC cZ a4 7 (upd (upd (upd (upd (upd (upd (upd (fun _ => 0) 0 1) 1 1) 2 1) 3 1) 4 1) 5 1) 6 1), arC cI a5 7 (fun _ => 100), arC cI a6 7 (fun _ => 0), arC cI a7 8 (fun _ => 0)]) X (c_J7_fill_53178 l D cI cZ cS cJ a5 7 (fun _ => 0) 100 (by omega)) (va_cwS 2 hts gX0_init_J7_fill_53178 rfl rfl rfl (by decide +kernel) ⟨Nat.le_of_ble_eq_true rfl, Nat.le_of_ble_eq_true rfl⟩) hK hP hD hS hA [5] rfl (by decide +kernel) rfl rfl rfl rfl hl.1 rfl (Nat.le_of_ble_eq_true rfl) dX0_init_112 ⟨Nat.le_of_ble_eq_true rfl, Nat.le_of_ble_eq_true rfl⟩ (fun H locs hP hD hS => ?_)
  refine lv_aload_n hx hb dX0_init_115 rfl (lv_at hl 1 rfl) ?_
  refine va_get (D := D) (ci := 0) (v := .ref a6) (C := RX0) (T := TX0) (N := 7) hx hb hts hinX0 hown hK hP 0 rfl rfl 5 (by decide) (hts (.fieldLink RX0 28 "RibbonBalloons$Flock" "bears" "[I") (by decide +kernel)) (fun _ h9 => h9) rfl dX0_init_116 ?_
  refine lv_sipush (v := 150) hx hb dX0_init_119 (by decide) ?_
  refine kcallS (As := [.ref a6, .int 150]) (rest := []) (Wn := [obC a0 0 [.ref a1, .ref a2, .ref a3, .ref a4, .ref a5, .ref a6, .ref a7], arC cI a1 8 (fun _ => 60), arC cI a2 8 (fun _ => 4), arC cI a3 8 (fun _ => 1), arC cZ a4 7 (upd (upd (upd (upd (upd (upd (upd (fun _ => 0) 0 1) 1 1) 2 1) 3 1) 4 1) 5 1) 6 1), arC cI a5 7 (fun _ => 100), arC cI a6 7 (fun _ => 150), arC cI a7 8 (fun _ => 0)]) X (c_J7_fill_53178 l D cI cZ cS cJ a6 7 (fun _ => 0) 150 (by omega)) (va_cwS 2 hts gX0_init_J7_fill_53178 rfl rfl rfl (by decide +kernel) ⟨Nat.le_of_ble_eq_true rfl, Nat.le_of_ble_eq_true rfl⟩) hK hP hD hS hA [6] rfl (by decide +kernel) rfl rfl rfl rfl hl.1 rfl (Nat.le_of_ble_eq_true rfl) dX0_init_122 ⟨Nat.le_of_ble_eq_true rfl, Nat.le_of_ble_eq_true rfl⟩ (fun H locs hP hD hS => ?_)
  obtain ⟨hP, hD⟩ := PD_cg hP hD 1 ((init0 0)) rfl (by decide +kernel) (wn := List.flatten [obC a0 0 [.ref a1, .ref a2, .ref a3, .ref a4, .ref a5, .ref a6, .ref a7], arC cI a1 8 (init0 0), arC cI a2 8 (fun _ => 4), arC cI a3 8 (fun _ => 1), arC cZ a4 7 (upd (upd (upd (upd (upd (upd (upd (fun _ => 0) 0 1) 1 1) 2 1) 3 1) 4 1) 5 1) 6 1), arC cI a5 7 (fun _ => 100), arC cI a6 7 (fun _ => 150), arC cI a7 8 (fun _ => 0)]) rfl
  obtain ⟨hP, hD⟩ := PD_cg hP hD 2 ((init0 1)) rfl (by decide +kernel) (wn := List.flatten [obC a0 0 [.ref a1, .ref a2, .ref a3, .ref a4, .ref a5, .ref a6, .ref a7], arC cI a1 8 (init0 0), arC cI a2 8 (init0 1), arC cI a3 8 (fun _ => 1), arC cZ a4 7 (upd (upd (upd (upd (upd (upd (upd (fun _ => 0) 0 1) 1 1) 2 1) 3 1) 4 1) 5 1) 6 1), arC cI a5 7 (fun _ => 100), arC cI a6 7 (fun _ => 150), arC cI a7 8 (fun _ => 0)]) rfl
  obtain ⟨hP, hD⟩ := PD_cg hP hD 3 ((init0 2)) rfl (by decide +kernel) (wn := List.flatten [obC a0 0 [.ref a1, .ref a2, .ref a3, .ref a4, .ref a5, .ref a6, .ref a7], arC cI a1 8 (init0 0), arC cI a2 8 (init0 1), arC cI a3 8 (init0 2), arC cZ a4 7 (upd (upd (upd (upd (upd (upd (upd (fun _ => 0) 0 1) 1 1) 2 1) 3 1) 4 1) 5 1) 6 1), arC cI a5 7 (fun _ => 100), arC cI a6 7 (fun _ => 150), arC cI a7 8 (fun _ => 0)]) rfl
  obtain ⟨hP, hD⟩ := PD_cg hP hD 4 ((init0 3)) rfl (by decide +kernel) (wn := List.flatten [obC a0 0 [.ref a1, .ref a2, .ref a3, .ref a4, .ref a5, .ref a6, .ref a7], arC cI a1 8 (init0 0), arC cI a2 8 (init0 1), arC cI a3 8 (init0 2), arC cZ a4 7 (init0 3), arC cI a5 7 (fun _ => 100), arC cI a6 7 (fun _ => 150), arC cI a7 8 (fun _ => 0)]) rfl
  obtain ⟨hP, hD⟩ := PD_cg hP hD 5 ((init0 4)) rfl (by decide +kernel) (wn := List.flatten [obC a0 0 [.ref a1, .ref a2, .ref a3, .ref a4, .ref a5, .ref a6, .ref a7], arC cI a1 8 (init0 0), arC cI a2 8 (init0 1), arC cI a3 8 (init0 2), arC cZ a4 7 (init0 3), arC cI a5 7 (init0 4), arC cI a6 7 (fun _ => 150), arC cI a7 8 (fun _ => 0)]) rfl
  obtain ⟨hP, hD⟩ := PD_cg hP hD 6 ((init0 5)) rfl (by decide +kernel) (wn := List.flatten [obC a0 0 [.ref a1, .ref a2, .ref a3, .ref a4, .ref a5, .ref a6, .ref a7], arC cI a1 8 (init0 0), arC cI a2 8 (init0 1), arC cI a3 8 (init0 2), arC cZ a4 7 (init0 3), arC cI a5 7 (init0 4), arC cI a6 7 (init0 5), arC cI a7 8 (fun _ => 0)]) rfl
  obtain ⟨hP, hD⟩ := PD_cg hP hD 7 ((init0 6)) rfl (by decide +kernel) (wn := List.flatten [obC a0 0 [.ref a1, .ref a2, .ref a3, .ref a4, .ref a5, .ref a6, .ref a7], arC cI a1 8 (init0 0), arC cI a2 8 (init0 1), arC cI a3 8 (init0 2), arC cZ a4 7 (init0 3), arC cI a5 7 (init0 4), arC cI a6 7 (init0 5), arC cI a7 8 (init0 6)]) rfl
  have hP : va_P D vwCl (List.flatten [flX cI cZ a0 a1 a2 a3 a4 a5 a6 a7 (init0 0) (init0 1) (init0 2) (init0 3) (init0 4) (init0 5) (init0 6)]) _ := hP
  have hD : va_D A (List.flatten [flX cI cZ a0 a1 a2 a3 a4 a5 a6 a7 (init0 0) (init0 1) (init0 2) (init0 3) (init0 4) (init0 5) (init0 6)]) := hD
  refine lv_aload_n hx hb dX0_init_125 rfl (lv_at hl 1 rfl) ?_
  refine kcallV (As := []) (rest := []) (Wn := [flX cI cZ a0 a1 a2 a3 a4 a5 a6 a7 (init0 0) (init0 1) (init0 2) (init0 3) (init0 4) (init0 5) (ht init0)]) X (c_X0_mendHeights l D cI cZ cS cJ a0 a1 a2 a3 a4 a5 a6 a7 init0) (cwV 0 hts gX0_init_X0_mendHeights rfl rfl rfl (by decide +kernel) ⟨Nat.le_of_ble_eq_true rfl, Nat.le_of_ble_eq_true rfl⟩) hK hP hD hS hA [0] rfl (by decide +kernel) rfl rfl rfl 0 0 rfl rfl rfl hl.1 rfl (Nat.le_of_ble_eq_true rfl) dX0_init_126 ⟨Nat.le_of_ble_eq_true rfl, Nat.le_of_ble_eq_true rfl⟩ (fun H locs hP hD hS => ?_)
  have hP : va_P D vwCl (List.flatten [flX cI cZ a0 a1 a2 a3 a4 a5 a6 a7 (init0 0) (init0 1) (init0 2) (init0 3) (init0 4) (init0 5) (ht init0)]) _ := hP
  have hD : va_D A (List.flatten [flX cI cZ a0 a1 a2 a3 a4 a5 a6 a7 (init0 0) (init0 1) (init0 2) (init0 3) (init0 4) (init0 5) (ht init0)]) := hD
  exact hend (a1, a2, a3, a4, a5, a6, a7) _ _ _ _ trivial hP hD hS dX0_init_129

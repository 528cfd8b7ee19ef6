set_option maxHeartbeats 4000000 in
set_option maxRecDepth 100000 in
theorem c_X1_init (l : Launch) (D : va_G) (cI cZ cS cJ : ClassId) (f0 : Nat)  : CE (U := (Nat) × (Nat) × (Nat) × (Nat) × (Nat) × (Nat) × (Nat) × (Nat) × (Nat)) l yX1_init wsX1_init ({ frames := 4, cells := 9, slots := 68, locals := 86 }) D (tyL cI cZ cS cJ) [.ref f0] (List.flatten [obC f0 1 [.null, .null, .int 0]]) (fun u => True) (fun u => none) (fun u => List.flatten [obC f0 1 [.ref u.1, .ref u.2.2.2.2.2.2.2.2, .int (-1000)], flX cI cZ u.1 u.2.1 u.2.2.1 u.2.2.2.1 u.2.2.2.2.1 u.2.2.2.2.2.1 u.2.2.2.2.2.2.1 u.2.2.2.2.2.2.2.1 (init0 0) (init0 1) (init0 2) (init0 3) (init0 4) (init0 5) (ht init0), arC cI u.2.2.2.2.2.2.2.2 8 (fun _ => 0)]) 9 68 := by
  refine CE_void (cc := cX1_init) (maxL := 1) (by decide) rfl (Nat.le_of_ble_eq_true rfl) ?_
  intro p e s m below meth c A ls Q X hnm hK hP hD hS hA hl hend
  have X : CallFix p m c cX1_init 1 s ([.ref f0] : List Value).toArray wsX1_init RX1 := X
  obtain ⟨hx, hb, hml, hown, hts⟩ := id X
  have hl : lv_has ls 1 [(0, .ref f0)] := hl
  have hinX0 : ∀ w ∈ u_ws RX0 TX0 7, w ∈ wsX1_init := by decide +kernel
  have hinX1 : ∀ w ∈ u_ws RX1 TX1 3, w ∈ wsX1_init := by decide +kernel
  refine lv_aload_n hx hb dX1_init_0 rfl (lv_at hl 0 rfl) ?_
  refine W.objInit hx hb hown (hts (.methodLink RX1 3 objectInit) (by decide +kernel)) (hts (.instanceMethod objectInit) (by decide +kernel)) (hts (.code objectInit ⟨#[0xb1]⟩ 1 none) (by decide +kernel)) rfl (by rw [hml]; exact hl.1) rfl dX1_init_1 (Nat.le_of_ble_eq_true rfl) (Nat.le_of_ble_eq_true rfl) ?_
  refine W.eq (g2 := F0 m 4 ls []) rfl ?_
  refine lv_aload_n hx hb dX1_init_4 rfl (lv_at hl 0 rfl) ?_
  refine r_newO (C := RX0) (T := TX0) (N := 7) (ci := 0) hx hb hts hinX0 tyX0 tyX0_ok hown (hts (.classLink RX1 9 RX0) (by decide +kernel)) (hts (.instantiable RX0 7) (by decide +kernel)) (hts (.initialized RX0) (by decide +kernel)) hK hP hD hS hA rfl [.null, .null, .null, .null, .null, .null, .null] (fun j hj => by rcases (show j = 0 ∨ j = 1 ∨ j = 2 ∨ j = 3 ∨ j = 4 ∨ j = 5 ∨ j = 6 by omega) with rfl | rfl | rfl | rfl | rfl | rfl | rfl <;> rfl) (Nat.le_of_ble_eq_true rfl) (Nat.le_of_ble_eq_true rfl) dX1_init_5 (fun g0 H hP hD hS => ?_)
  have hP : va_P D vwCl (List.flatten [obC f0 1 [.null, .null, .int 0], obC g0 0 [.null, .null, .null, .null, .null, .null, .null]]) _ := hP
  have hD : va_D A (List.flatten [obC f0 1 [.null, .null, .int 0], obC g0 0 [.null, .null, .null, .null, .null, .null, .null]]) := hD
  refine lv_dup hx hb dX1_init_8 rfl ?_
  refine kcallI (As := []) (rest := [.ref g0, .ref f0]) (U := (Nat) × (Nat) × (Nat) × (Nat) × (Nat) × (Nat) × (Nat)) (Wr := [obC f0 1 [.null, .null, .int 0]]) (Wo := fun u => [flX cI cZ g0 u.1 u.2.1 u.2.2.1 u.2.2.2.1 u.2.2.2.2.1 u.2.2.2.2.2.1 u.2.2.2.2.2.2 (init0 0) (init0 1) (init0 2) (init0 3) (init0 4) (init0 5) (ht init0)]) X (c_X0_init l D cI cZ cS cJ g0) (cwI 0 hts gX1_init_X0_init rfl rfl rfl (hts (.initialized RX0) (by decide +kernel)) (hts (.methodLink RX1 11 yX0_init) (by decide +kernel)) (hts (.instanceMethod yX0_init) (by decide +kernel)) rfl (by decide +kernel) ⟨Nat.le_of_ble_eq_true rfl, Nat.le_of_ble_eq_true rfl⟩) hK hP hD hS hA rfl hl.1 rfl (Nat.le_of_ble_eq_true rfl) dX1_init_9 ⟨Nat.le_of_ble_eq_true rfl, Nat.le_of_ble_eq_true rfl⟩ (fun u H locs hu hP hD hS => ?_)
  obtain ⟨g1, g2, g3, g4, g5, g6, g7⟩ := u
  have hP : va_P D vwCl (List.flatten [obC f0 1 [.null, .null, .int 0], flX cI cZ g0 g1 g2 g3 g4 g5 g6 g7 (init0 0) (init0 1) (init0 2) (init0 3) (init0 4) (init0 5) (ht init0)]) _ := hP
  have hD : va_D A (List.flatten [obC f0 1 [.null, .null, .int 0], flX cI cZ g0 g1 g2 g3 g4 g5 g6 g7 (init0 0) (init0 1) (init0 2) (init0 3) (init0 4) (init0 5) (ht init0)]) := hD
  refine va_putF (D := D) (ci := 1) (v := .ref g0) (ty := (.object "RibbonBalloons$Flock")) (C := RX1) (T := TX1) (N := 3) hx hb hts hinX1 tyX1 tyX1_ok nmX1 hown hK hP hD hS 0 rfl rfl 0 (by decide) (hts (.fieldLink RX1 12 "RibbonBalloons$Forecast" "flock" "LRibbonBalloons$Flock;") (by decide +kernel)) (fun _ h9 => h9) rfl hnm rfl (by decide +kernel) rfl rfl (Nat.le_of_ble_eq_true rfl) dX1_init_12 (fun H locs hP hD hS => ?_)
  have hP : va_P D vwCl (List.flatten [obC f0 1 [.ref g0, .null, .int 0], flX cI cZ g0 g1 g2 g3 g4 g5 g6 g7 (init0 0) (init0 1) (init0 2) (init0 3) (init0 4) (init0 5) (ht init0)]) _ := hP
  have hD : va_D A (List.flatten [obC f0 1 [.ref g0, .null, .int 0], flX cI cZ g0 g1 g2 g3 g4 g5 g6 g7 (init0 0) (init0 1) (init0 2) (init0 3) (init0 4) (init0 5) (ht init0)]) := hD
  refine lv_aload_n hx hb dX1_init_15 rfl (lv_at hl 0 rfl) ?_
  refine lv_bipush (v := 8) hx hb dX1_init_16 (by decide) ?_
  refine r_newI (N := 8) hx hb (hts (.arrayClass .int) (by decide +kernel)) hK hP hD hS hA (by decide) (by decide) (by decide) (Nat.le_of_ble_eq_true rfl) (Nat.le_of_ble_eq_true rfl) dX1_init_18 (fun f1 H hP hD hS => ?_)
  have hP : va_P D vwCl (List.flatten [obC f0 1 [.ref g0, .null, .int 0], flX cI cZ g0 g1 g2 g3 g4 g5 g6 g7 (init0 0) (init0 1) (init0 2) (init0 3) (init0 4) (init0 5) (ht init0), arC cI f1 8 (fun _ => 0)]) _ := hP
  have hD : va_D A (List.flatten [obC f0 1 [.ref g0, .null, .int 0], flX cI cZ g0 g1 g2 g3 g4 g5 g6 g7 (init0 0) (init0 1) (init0 2) (init0 3) (init0 4) (init0 5) (ht init0), arC cI f1 8 (fun _ => 0)]) := hD
  refine va_putF (D := D) (ci := 1) (v := .ref f1) (ty := (.array .int)) (C := RX1) (T := TX1) (N := 3) hx hb hts hinX1 tyX1 tyX1_ok nmX1 hown hK hP hD hS 0 rfl rfl 1 (by decide) (hts (.fieldLink RX1 18 "RibbonBalloons$Forecast" "landings" "[I") (by decide +kernel)) (fun _ h9 => h9) rfl hnm rfl (by decide +kernel) rfl rfl (Nat.le_of_ble_eq_true rfl) dX1_init_20 (fun H locs hP hD hS => ?_)
  have hP : va_P D vwCl (List.flatten [obC f0 1 [.ref g0, .ref f1, .int 0], flX cI cZ g0 g1 g2 g3 g4 g5 g6 g7 (init0 0) (init0 1) (init0 2) (init0 3) (init0 4) (init0 5) (ht init0), arC cI f1 8 (fun _ => 0)]) _ := hP
  have hD : va_D A (List.flatten [obC f0 1 [.ref g0, .ref f1, .int 0], flX cI cZ g0 g1 g2 g3 g4 g5 g6 g7 (init0 0) (init0 1) (init0 2) (init0 3) (init0 4) (init0 5) (ht init0), arC cI f1 8 (fun _ => 0)]) := hD
  refine lv_aload_n hx hb dX1_init_23 rfl (lv_at hl 0 rfl) ?_
  refine lv_sipush (v := (-1000)) hx hb dX1_init_24 (by decide) ?_
  refine va_put (D := D) (ci := 1) (v := .int (-1000)) (ty := .int) (C := RX1) (T := TX1) (N := 3) hx hb hts hinX1 tyX1 tyX1_ok nmX1 hown hK hP hD hS 0 rfl rfl 2 (by decide) (hts (.fieldLink RX1 22 "RibbonBalloons$Forecast" "firstSnap" "I") (by decide +kernel)) (fun _ h9 => h9) rfl (by decide +kernel) rfl rfl (Nat.le_of_ble_eq_true rfl) dX1_init_27 (fun H locs hP hD hS => ?_)
  have hP : va_P D vwCl (List.flatten [obC f0 1 [.ref g0, .ref f1, .int (-1000)], flX cI cZ g0 g1 g2 g3 g4 g5 g6 g7 (init0 0) (init0 1) (init0 2) (init0 3) (init0 4) (init0 5) (ht init0), arC cI f1 8 (fun _ => 0)]) _ := hP
  have hD : va_D A (List.flatten [obC f0 1 [.ref g0, .ref f1, .int (-1000)], flX cI cZ g0 g1 g2 g3 g4 g5 g6 g7 (init0 0) (init0 1) (init0 2) (init0 3) (init0 4) (init0 5) (ht init0), arC cI f1 8 (fun _ => 0)]) := hD
  have hP : va_P D vwCl (List.flatten [obC f0 1 [.ref g0, .ref f1, .int (-1000)], flX cI cZ g0 g1 g2 g3 g4 g5 g6 g7 (init0 0) (init0 1) (init0 2) (init0 3) (init0 4) (init0 5) (ht init0), arC cI f1 8 (fun _ => 0)]) _ := hP
  have hD : va_D A (List.flatten [obC f0 1 [.ref g0, .ref f1, .int (-1000)], flX cI cZ g0 g1 g2 g3 g4 g5 g6 g7 (init0 0) (init0 1) (init0 2) (init0 3) (init0 4) (init0 5) (ht init0), arC cI f1 8 (fun _ => 0)]) := hD
  exact hend (g0, g1, g2, g3, g4, g5, g6, g7, f1) _ _ _ _ trivial hP hD hS dX1_init_30

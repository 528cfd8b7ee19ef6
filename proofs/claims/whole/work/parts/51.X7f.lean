set_option maxHeartbeats 4000000 in
set_option maxRecDepth 100000 in
theorem c_X7_copies (l : Launch) (D : va_G) (cI cZ cS cJ : ClassId) (m0 : Nat) (m1 : Nat) (m2 : Nat) (m3 : Nat) (th : Int32) (sv : Int32) (kp : Int32) (ln : Int32) (ca : Int32) (lt : Int32) (fi : Int32) (sd : Int32) (hs : Int64) (B : Nat → Nat → Nat → Int32) (T : Nat → Int32) (h : Nat → Int32) (x : Nat) (y : Nat) (hx8 : x ≤ 8) (hy8 : y ≤ 8) (hxy : x ≠ y) : C0 l yX7_copies wsX7_copies ({ frames := 0, cells := 0, slots := 0, locals := 0 }) D (tyL cI cZ cS cJ) [.ref m0, .int (nI x), .int (nI y)] (List.flatten [mdO m0 m1 m2 m3 th sv kp ln ca lt fi sd hs, arC cI m1 1170 (enc B), arC cI m2 60 T, arC cI m3 8 h]) none (List.flatten [mdO m0 m1 m2 m3 th sv kp ln ca lt fi sd hs, arC cI m1 1170 (enc (uA B y (B x))), arC cI m2 60 T, arC cI m3 8 h]) 0 0 := by
  refine C0_void (cc := cX7_copies) (maxL := 4) (by decide) rfl (Nat.le_of_ble_eq_true rfl) ?_
  intro p e s m below meth c A ls Q X hnm hK hP hD hS hA hl hend
  have X : CallFix p m c cX7_copies 4 s ([.ref m0, .int (nI x), .int (nI y)] : List Value).toArray wsX7_copies RX7 := X
  obtain ⟨hx, hb, hml, hown, hts⟩ := id X
  have hl : lv_has ls 4 [(0, .ref m0), (1, .int (nI x)), (2, .int (nI y))] := hl
  have hinX7 : ∀ w ∈ u_ws RX7 TX7 12, w ∈ wsX7_copies := by decide +kernel
  refine lv_iconst (v := 0) hx hb dX7_copies_0 (by decide) ?_
  refine lv_istore_n (lv' := [(3, .int 0), (0, .ref m0), (1, .int (nI x)), (2, .int (nI y))]) hx hb dX7_copies_1 rfl hl (by decide) rfl (fun ls hl => ?_)
  have lp_2 : ∀ (nn : Nat) (i : Nat), True → (i ≤ 130) → 130 - i < nn → ∀ (H : Heap) (locs : List Loc) (ls : Array Slot), va_P D vwCl (List.flatten [mdO m0 m1 m2 m3 th sv kp ln ca lt fi sd hs, arC cI m1 1170 (cpB B x y i), arC cI m2 60 T, arC cI m3 8 h]) H → va_D A (List.flatten [mdO m0 m1 m2 m3 th sv kp ln ca lt fi sd hs, arC cI m1 1170 (cpB B x y i), arC cI m2 60 T, arC cI m3 8 h]) → va_S A s.heap H locs → lv_has ls 4 [(0, .ref m0), (1, .int (nI x)), (2, .int (nI y)), (3, .int (nI i))] → W p l e ({ frames := 0, cells := 0, slots := 0, locals := 0 } : Room) s m ([.ref m0, .int (nI x), .int (nI y)] : List Value).toArray below meth c H locs 0 0 Q (F0 m 2 ls []) := by
    intro nn
    induction nn with
    | zero => intro i _ hi hmz; exact absurd hmz (Nat.not_lt_zero _)
    | succ nn ih =>
      intro i _ hi hms H locs ls hP hD hS hl
      refine lv_iload_n hx hb dX7_copies_2 rfl (lv_at hl 3 rfl) ?_
      refine lv_sipush (v := 130) hx hb dX7_copies_3 (by decide) ?_
      refine n_ge (i := i) (j := 130) (tgt := 39) hx hb (by omega) (by omega) dX7_copies_6 (by decide) (fun c6 => ?_) (fun c6 => ?_)
      · skip
        obtain ⟨hP, hD⟩ := PD_cg hP hD 1 (enc (uA B y (B x))) rfl (fun j _ => cpB_o (by omega) (by omega) j) (wn := List.flatten [mdO m0 m1 m2 m3 th sv kp ln ca lt fi sd hs, arC cI m1 1170 (enc (uA B y (B x))), arC cI m2 60 T, arC cI m3 8 h]) rfl
        exact hend _ _ _ _ hP hD hS dX7_copies_39
      · skip
        refine lv_aload_n hx hb dX7_copies_9 rfl (lv_at hl 0 rfl) ?_
        refine va_get (D := D) (ci := 7) (v := .ref m1) (C := RX7) (T := TX7) (N := 12) hx hb hts hinX7 hown hK hP 0 rfl rfl 1 (by decide) (hts (.fieldLink RX7 7 "RibbonBalloonsModel" "s" "[I") (by decide +kernel)) (fun _ h9 => h9) rfl dX7_copies_10 ?_
        refine lv_sipush (v := 130) hx hb dX7_copies_13 (by decide) ?_
        refine lv_iload_n hx hb dX7_copies_16 rfl (lv_at hl 2 rfl) ?_
        refine lv_imul hx hb dX7_copies_17 ?_
        refine lv_eqi (y := nI (130 * y)) (pk_mul _ _) ?_
        refine lv_iload_n hx hb dX7_copies_18 rfl (lv_at hl 3 rfl) ?_
        refine lv_iadd hx hb dX7_copies_19 ?_
        refine lv_eqi (y := nI ((130 * y) + i)) (nI_add _ _) ?_
        refine lv_aload_n hx hb dX7_copies_20 rfl (lv_at hl 0 rfl) ?_
        refine va_get (D := D) (ci := 7) (v := .ref m1) (C := RX7) (T := TX7) (N := 12) hx hb hts hinX7 hown hK hP 0 rfl rfl 1 (by decide) (hts (.fieldLink RX7 7 "RibbonBalloonsModel" "s" "[I") (by decide +kernel)) (fun _ h9 => h9) rfl dX7_copies_21 ?_
        refine lv_sipush (v := 130) hx hb dX7_copies_24 (by decide) ?_
        refine lv_iload_n hx hb dX7_copies_27 rfl (lv_at hl 1 rfl) ?_
        refine lv_imul hx hb dX7_copies_28 ?_
        refine lv_eqi (y := nI (130 * x)) (pk_mul _ _) ?_
        refine lv_iload_n hx hb dX7_copies_29 rfl (lv_at hl 3 rfl) ?_
        refine lv_iadd hx hb dX7_copies_30 ?_
        refine lv_eqi (y := nI ((130 * x) + i)) (nI_add _ _) ?_
        refine r_iald hx hb hK hP 1 0 ((130 * x) + i) (f := cpB B x y i) rfl rfl (by omega) (by omega) dX7_copies_31 ?_
        refine r_iast hx hb hK hP hD hS 1 0 ((130 * y) + i) (f := cpB B x y i) (x := (cpB B x y i) ((130 * x) + i)) (wn := List.flatten [mdO m0 m1 m2 m3 th sv kp ln ca lt fi sd hs, arC cI m1 1170 (upd (cpB B x y i) ((130 * y) + i) ((cpB B x y i) ((130 * x) + i))), arC cI m2 60 T, arC cI m3 8 h]) rfl rfl (by omega) (by omega) rfl dX7_copies_32 (fun H locs hP hD hS => ?_)
        refine lv_iinc (v := nI (i + 1)) (lv' := [(3, .int (nI (i + 1))), (0, .ref m0), (1, .int (nI x)), (2, .int (nI y))]) hx hb dX7_copies_33 hl (k := 3) rfl (nI_add _ _) (by decide) rfl (fun ls hl => ?_)
        refine lv_goto (tgt := 2) hx hb dX7_copies_36 (by decide) ?_
        obtain ⟨hP, hD⟩ := PD_cg hP hD 1 (cpB B x y (i + 1)) rfl (fun j _ => cpB_s hxy (by omega) j) (wn := List.flatten [mdO m0 m1 m2 m3 th sv kp ln ca lt fi sd hs, arC cI m1 1170 (cpB B x y (i + 1)), arC cI m2 60 T, arC cI m3 8 h]) rfl
        exact ih  (i + 1) trivial (by omega) (by omega) _ _ _ hP hD hS (lv_sub hl [1, 2, 3, 0] rfl)
  obtain ⟨hP, hD⟩ := PD_cg hP hD 1 (cpB B x y 0) rfl (fun j _ => cpB_0 B x y j) (wn := List.flatten [mdO m0 m1 m2 m3 th sv kp ln ca lt fi sd hs, arC cI m1 1170 (cpB B x y 0), arC cI m2 60 T, arC cI m3 8 h]) rfl
  exact lp_2 (130 - 0 + 1) 0 trivial (by omega) (Nat.lt_succ_self _) _ _ _ hP hD hS (lv_sub hl [1, 2, 3, 0] rfl)

set_option maxHeartbeats 4000000 in
set_option maxRecDepth 100000 in
theorem c_X7_save (l : Launch) (D : va_G) (cI cZ cS cJ : ClassId) (m0 : Nat) (m1 : Nat) (m2 : Nat) (m3 : Nat) (th : Int32) (kp : Int32) (ln : Int32) (ca : Int32) (lt : Int32) (fi : Int32) (sd : Int32) (hs : Int64) (B : Nat → Nat → Nat → Int32) (T : Nat → Int32) (h : Nat → Int32) (z : Nat) (hz6 : z ≤ 6) : C0 l yX7_save wsX7_save ({ frames := 1, cells := 0, slots := 0, locals := 23 }) D (tyL cI cZ cS cJ) [.ref m0] (List.flatten [mdO m0 m1 m2 m3 th (nI z) kp ln ca lt fi sd hs, arC cI m1 1170 (enc B), arC cI m2 60 T, arC cI m3 8 h]) none (List.flatten [mdO m0 m1 m2 m3 th (nI (savZ z)) kp ln ca lt fi sd hs, arC cI m1 1170 (enc (savB B z)), arC cI m2 60 T, arC cI m3 8 h]) 0 0 := by
  refine C0_void (cc := cX7_save) (maxL := 2) (by decide) rfl (Nat.le_of_ble_eq_true rfl) ?_
  intro p e s m below meth c A ls Q X hnm hK hP hD hS hA hl hend
  have X : CallFix p m c cX7_save 2 s ([.ref m0] : List Value).toArray wsX7_save RX7 := X
  obtain ⟨hx, hb, hml, hown, hts⟩ := id X
  have hl : lv_has ls 2 [(0, .ref m0)] := hl
  have hinX7 : ∀ w ∈ u_ws RX7 TX7 12, w ∈ wsX7_save := by decide +kernel
  refine lv_iconst (v := 1) hx hb dX7_save_0 (by decide) ?_
  refine lv_istore_n (lv' := [(1, .int 1), (0, .ref m0)]) hx hb dX7_save_1 rfl hl (by decide) rfl (fun ls hl => ?_)
  have lp_2 : ∀ (nn : Nat) (k : Nat), True → (k ≤ 6) → (1 ≤ k) → (k = 1 ∨ z = 6) → 6 - k < nn → ∀ (H : Heap) (locs : List Loc) (ls : Array Slot), va_P D vwCl (List.flatten [mdO m0 m1 m2 m3 th (nI z) kp ln ca lt fi sd hs, arC cI m1 1170 (enc (shB B k)), arC cI m2 60 T, arC cI m3 8 h]) H → va_D A (List.flatten [mdO m0 m1 m2 m3 th (nI z) kp ln ca lt fi sd hs, arC cI m1 1170 (enc (shB B k)), arC cI m2 60 T, arC cI m3 8 h]) → va_S A s.heap H locs → lv_has ls 2 [(0, .ref m0), (1, .int (nI k))] → W p l e ({ frames := 1, cells := 0, slots := 0, locals := 23 } : Room) s m ([.ref m0] : List Value).toArray below meth c H locs 0 0 Q (F0 m 2 ls []) := by
    intro nn
    induction nn with
    | zero => intro k _ hk hk1 hk2 hmz; exact absurd hmz (Nat.not_lt_zero _)
    | succ nn ih =>
      intro k _ hk hk1 hk2 hms H locs ls hP hD hS hl
      refine lv_iload_n hx hb dX7_save_2 rfl (lv_at hl 1 rfl) ?_
      refine lv_bipush (v := 6) hx hb dX7_save_3 (by decide) ?_
      refine n_ge (i := k) (j := 6) (tgt := 31) hx hb (by omega) (by omega) dX7_save_5 (by decide) (fun c5 => ?_) (fun c5 => ?_)
      · skip
        refine lv_aload_n hx hb dX7_save_31 rfl (lv_at hl 0 rfl) ?_
        refine lv_dup hx hb dX7_save_32 rfl ?_
        refine va_get (D := D) (ci := 7) (v := .int (nI z)) (C := RX7) (T := TX7) (N := 12) hx hb hts hinX7 hown hK hP 0 rfl rfl 2 (by decide) (hts (.fieldLink RX7 78 "RibbonBalloonsModel" "saved" "I") (by decide +kernel)) (fun _ h9 => h9) rfl dX7_save_33 ?_
        refine lv_aload_n hx hb dX7_save_36 rfl (lv_at hl 0 rfl) ?_
        refine va_get (D := D) (ci := 7) (v := .int (nI z)) (C := RX7) (T := TX7) (N := 12) hx hb hts hinX7 hown hK hP 0 rfl rfl 2 (by decide) (hts (.fieldLink RX7 78 "RibbonBalloonsModel" "saved" "I") (by decide +kernel)) (fun _ h9 => h9) rfl dX7_save_37 ?_
        refine lv_bipush (v := 6) hx hb dX7_save_40 (by decide) ?_
        refine n_ge (i := z) (j := 6) (tgt := 49) hx hb (by omega) (by omega) dX7_save_42 (by decide) (fun c42 => ?_) (fun c42 => ?_)
        · skip
          refine lv_iconst (v := 0) hx hb dX7_save_49 (by decide) ?_
          refine lv_iadd hx hb dX7_save_50 ?_
          refine lv_eqi (y := nI (z + 0)) (nI_add _ _) ?_
          refine va_put (D := D) (ci := 7) (v := .int (nI (z + 0))) (ty := .int) (C := RX7) (T := TX7) (N := 12) hx hb hts hinX7 tyX7 tyX7_ok nmX7 hown hK hP hD hS 0 rfl rfl 2 (by decide) (hts (.fieldLink RX7 78 "RibbonBalloonsModel" "saved" "I") (by decide +kernel)) (fun _ h9 => h9) rfl (by decide +kernel) rfl rfl (Nat.le_of_ble_eq_true rfl) dX7_save_51 (fun H locs hP hD hS => ?_)
          have hP : va_P D vwCl (List.flatten [mdO m0 m1 m2 m3 th (nI (z + 0)) kp ln ca lt fi sd hs, arC cI m1 1170 (enc (shB B k)), arC cI m2 60 T, arC cI m3 8 h]) _ := hP
          have hD : va_D A (List.flatten [mdO m0 m1 m2 m3 th (nI (z + 0)) kp ln ca lt fi sd hs, arC cI m1 1170 (enc (shB B k)), arC cI m2 60 T, arC cI m3 8 h]) := hD
          have eZ : nI (z + 0) = nI (savZ z) := by unfold savZ; first | (exfalso; omega) | (rw [if_pos (by omega)]) | (rw [if_neg (by omega)]; rfl)
          obtain ⟨hP, hD⟩ := PD_re (wn := List.flatten [mdO m0 m1 m2 m3 th (nI (savZ z)) kp ln ca lt fi sd hs, arC cI m1 1170 (enc (shB B k)), arC cI m2 60 T, arC cI m3 8 h]) (by rw [eZ]) hP hD
          refine lv_aload_n hx hb dX7_save_54 rfl (lv_at hl 0 rfl) ?_
          refine lv_iconst (v := 0) hx hb dX7_save_55 (by decide) ?_
          refine lv_aload_n hx hb dX7_save_56 rfl (lv_at hl 0 rfl) ?_
          refine va_get (D := D) (ci := 7) (v := .int (nI (savZ z))) (C := RX7) (T := TX7) (N := 12) hx hb hts hinX7 hown hK hP 0 rfl rfl 2 (by decide) (hts (.fieldLink RX7 78 "RibbonBalloonsModel" "saved" "I") (by decide +kernel)) (fun _ h9 => h9) rfl dX7_save_57 ?_
          refine kcallV (As := [.int 0, .int (nI (savZ z))]) (rest := []) (Wn := [mdO m0 m1 m2 m3 th (nI (savZ z)) kp ln ca lt fi sd hs, arC cI m1 1170 (enc (uA (shB B k) (savZ z) ((shB B k) 0))), arC cI m2 60 T, arC cI m3 8 h]) X (c_X7_copies l D cI cZ cS cJ m0 m1 m2 m3 th (nI (savZ z)) kp ln ca lt fi sd hs (shB B k) T h 0 (savZ z) (by omega) (by have := savZ_le hz6; omega) (by unfold savZ; split <;> omega)) (cwV 2 hts gX7_save_X7_copies rfl rfl rfl (by decide +kernel) ⟨Nat.le_of_ble_eq_true rfl, Nat.le_of_ble_eq_true rfl⟩) hK hP hD hS hA [0, 1, 2, 3] rfl (by decide +kernel) rfl rfl rfl 0 7 rfl rfl rfl hl.1 rfl (Nat.le_of_ble_eq_true rfl) dX7_save_60 ⟨Nat.le_of_ble_eq_true rfl, Nat.le_of_ble_eq_true rfl⟩ (fun H locs hP hD hS => ?_)
          obtain ⟨hP, hD⟩ := PD_cg hP hD 1 (enc (savB B z)) rfl (fun j _ => by rw [sav_c (by omega)]) (wn := List.flatten [mdO m0 m1 m2 m3 th (nI (savZ z)) kp ln ca lt fi sd hs, arC cI m1 1170 (enc (savB B z)), arC cI m2 60 T, arC cI m3 8 h]) rfl
          exact hend _ _ _ _ hP hD hS dX7_save_63
        · skip
          refine lv_iconst (v := 1) hx hb dX7_save_45 (by decide) ?_
          refine lv_goto (tgt := 50) hx hb dX7_save_46 (by decide) ?_
          refine lv_iadd hx hb dX7_save_50 ?_
          refine lv_eqi (y := nI (z + 1)) (nI_add _ _) ?_
          refine va_put (D := D) (ci := 7) (v := .int (nI (z + 1))) (ty := .int) (C := RX7) (T := TX7) (N := 12) hx hb hts hinX7 tyX7 tyX7_ok nmX7 hown hK hP hD hS 0 rfl rfl 2 (by decide) (hts (.fieldLink RX7 78 "RibbonBalloonsModel" "saved" "I") (by decide +kernel)) (fun _ h9 => h9) rfl (by decide +kernel) rfl rfl (Nat.le_of_ble_eq_true rfl) dX7_save_51 (fun H locs hP hD hS => ?_)
          have hP : va_P D vwCl (List.flatten [mdO m0 m1 m2 m3 th (nI (z + 1)) kp ln ca lt fi sd hs, arC cI m1 1170 (enc (shB B k)), arC cI m2 60 T, arC cI m3 8 h]) _ := hP
          have hD : va_D A (List.flatten [mdO m0 m1 m2 m3 th (nI (z + 1)) kp ln ca lt fi sd hs, arC cI m1 1170 (enc (shB B k)), arC cI m2 60 T, arC cI m3 8 h]) := hD
          have eZ : nI (z + 1) = nI (savZ z) := by unfold savZ; first | (exfalso; omega) | (rw [if_pos (by omega)]) | (rw [if_neg (by omega)]; rfl)
          obtain ⟨hP, hD⟩ := PD_re (wn := List.flatten [mdO m0 m1 m2 m3 th (nI (savZ z)) kp ln ca lt fi sd hs, arC cI m1 1170 (enc (shB B k)), arC cI m2 60 T, arC cI m3 8 h]) (by rw [eZ]) hP hD
          refine lv_aload_n hx hb dX7_save_54 rfl (lv_at hl 0 rfl) ?_
          refine lv_iconst (v := 0) hx hb dX7_save_55 (by decide) ?_
          refine lv_aload_n hx hb dX7_save_56 rfl (lv_at hl 0 rfl) ?_
          refine va_get (D := D) (ci := 7) (v := .int (nI (savZ z))) (C := RX7) (T := TX7) (N := 12) hx hb hts hinX7 hown hK hP 0 rfl rfl 2 (by decide) (hts (.fieldLink RX7 78 "RibbonBalloonsModel" "saved" "I") (by decide +kernel)) (fun _ h9 => h9) rfl dX7_save_57 ?_
          refine kcallV (As := [.int 0, .int (nI (savZ z))]) (rest := []) (Wn := [mdO m0 m1 m2 m3 th (nI (savZ z)) kp ln ca lt fi sd hs, arC cI m1 1170 (enc (uA (shB B k) (savZ z) ((shB B k) 0))), arC cI m2 60 T, arC cI m3 8 h]) X (c_X7_copies l D cI cZ cS cJ m0 m1 m2 m3 th (nI (savZ z)) kp ln ca lt fi sd hs (shB B k) T h 0 (savZ z) (by omega) (by have := savZ_le hz6; omega) (by unfold savZ; split <;> omega)) (cwV 2 hts gX7_save_X7_copies rfl rfl rfl (by decide +kernel) ⟨Nat.le_of_ble_eq_true rfl, Nat.le_of_ble_eq_true rfl⟩) hK hP hD hS hA [0, 1, 2, 3] rfl (by decide +kernel) rfl rfl rfl 0 7 rfl rfl rfl hl.1 rfl (Nat.le_of_ble_eq_true rfl) dX7_save_60 ⟨Nat.le_of_ble_eq_true rfl, Nat.le_of_ble_eq_true rfl⟩ (fun H locs hP hD hS => ?_)
          obtain ⟨hP, hD⟩ := PD_cg hP hD 1 (enc (savB B z)) rfl (fun j _ => by rw [sav_c (by omega)]) (wn := List.flatten [mdO m0 m1 m2 m3 th (nI (savZ z)) kp ln ca lt fi sd hs, arC cI m1 1170 (enc (savB B z)), arC cI m2 60 T, arC cI m3 8 h]) rfl
          exact hend _ _ _ _ hP hD hS dX7_save_63
      · skip
        refine lv_aload_n hx hb dX7_save_8 rfl (lv_at hl 0 rfl) ?_
        refine va_get (D := D) (ci := 7) (v := .int (nI z)) (C := RX7) (T := TX7) (N := 12) hx hb hts hinX7 hown hK hP 0 rfl rfl 2 (by decide) (hts (.fieldLink RX7 78 "RibbonBalloonsModel" "saved" "I") (by decide +kernel)) (fun _ h9 => h9) rfl dX7_save_9 ?_
        refine lv_bipush (v := 6) hx hb dX7_save_12 (by decide) ?_
        refine n_ne (i := z) (j := 6) (tgt := 31) hx hb (by omega) (by omega) dX7_save_14 (by decide) (fun c14 => ?_) (fun c14 => ?_)
        · skip
          refine lv_aload_n hx hb dX7_save_31 rfl (lv_at hl 0 rfl) ?_
          refine lv_dup hx hb dX7_save_32 rfl ?_
          refine va_get (D := D) (ci := 7) (v := .int (nI z)) (C := RX7) (T := TX7) (N := 12) hx hb hts hinX7 hown hK hP 0 rfl rfl 2 (by decide) (hts (.fieldLink RX7 78 "RibbonBalloonsModel" "saved" "I") (by decide +kernel)) (fun _ h9 => h9) rfl dX7_save_33 ?_
          refine lv_aload_n hx hb dX7_save_36 rfl (lv_at hl 0 rfl) ?_
          refine va_get (D := D) (ci := 7) (v := .int (nI z)) (C := RX7) (T := TX7) (N := 12) hx hb hts hinX7 hown hK hP 0 rfl rfl 2 (by decide) (hts (.fieldLink RX7 78 "RibbonBalloonsModel" "saved" "I") (by decide +kernel)) (fun _ h9 => h9) rfl dX7_save_37 ?_
          refine lv_bipush (v := 6) hx hb dX7_save_40 (by decide) ?_
          refine n_ge (i := z) (j := 6) (tgt := 49) hx hb (by omega) (by omega) dX7_save_42 (by decide) (fun c42 => ?_) (fun c42 => ?_)
          · skip
            refine lv_iconst (v := 0) hx hb dX7_save_49 (by decide) ?_
            refine lv_iadd hx hb dX7_save_50 ?_
            refine lv_eqi (y := nI (z + 0)) (nI_add _ _) ?_
            refine va_put (D := D) (ci := 7) (v := .int (nI (z + 0))) (ty := .int) (C := RX7) (T := TX7) (N := 12) hx hb hts hinX7 tyX7 tyX7_ok nmX7 hown hK hP hD hS 0 rfl rfl 2 (by decide) (hts (.fieldLink RX7 78 "RibbonBalloonsModel" "saved" "I") (by decide +kernel)) (fun _ h9 => h9) rfl (by decide +kernel) rfl rfl (Nat.le_of_ble_eq_true rfl) dX7_save_51 (fun H locs hP hD hS => ?_)
            have hP : va_P D vwCl (List.flatten [mdO m0 m1 m2 m3 th (nI (z + 0)) kp ln ca lt fi sd hs, arC cI m1 1170 (enc (shB B k)), arC cI m2 60 T, arC cI m3 8 h]) _ := hP
            have hD : va_D A (List.flatten [mdO m0 m1 m2 m3 th (nI (z + 0)) kp ln ca lt fi sd hs, arC cI m1 1170 (enc (shB B k)), arC cI m2 60 T, arC cI m3 8 h]) := hD
            have eZ : nI (z + 0) = nI (savZ z) := by unfold savZ; first | (exfalso; omega) | (rw [if_pos (by omega)]) | (rw [if_neg (by omega)]; rfl)
            obtain ⟨hP, hD⟩ := PD_re (wn := List.flatten [mdO m0 m1 m2 m3 th (nI (savZ z)) kp ln ca lt fi sd hs, arC cI m1 1170 (enc (shB B k)), arC cI m2 60 T, arC cI m3 8 h]) (by rw [eZ]) hP hD
            refine lv_aload_n hx hb dX7_save_54 rfl (lv_at hl 0 rfl) ?_
            refine lv_iconst (v := 0) hx hb dX7_save_55 (by decide) ?_
            refine lv_aload_n hx hb dX7_save_56 rfl (lv_at hl 0 rfl) ?_
            refine va_get (D := D) (ci := 7) (v := .int (nI (savZ z))) (C := RX7) (T := TX7) (N := 12) hx hb hts hinX7 hown hK hP 0 rfl rfl 2 (by decide) (hts (.fieldLink RX7 78 "RibbonBalloonsModel" "saved" "I") (by decide +kernel)) (fun _ h9 => h9) rfl dX7_save_57 ?_
            refine kcallV (As := [.int 0, .int (nI (savZ z))]) (rest := []) (Wn := [mdO m0 m1 m2 m3 th (nI (savZ z)) kp ln ca lt fi sd hs, arC cI m1 1170 (enc (uA (shB B k) (savZ z) ((shB B k) 0))), arC cI m2 60 T, arC cI m3 8 h]) X (c_X7_copies l D cI cZ cS cJ m0 m1 m2 m3 th (nI (savZ z)) kp ln ca lt fi sd hs (shB B k) T h 0 (savZ z) (by omega) (by have := savZ_le hz6; omega) (by unfold savZ; split <;> omega)) (cwV 2 hts gX7_save_X7_copies rfl rfl rfl (by decide +kernel) ⟨Nat.le_of_ble_eq_true rfl, Nat.le_of_ble_eq_true rfl⟩) hK hP hD hS hA [0, 1, 2, 3] rfl (by decide +kernel) rfl rfl rfl 0 7 rfl rfl rfl hl.1 rfl (Nat.le_of_ble_eq_true rfl) dX7_save_60 ⟨Nat.le_of_ble_eq_true rfl, Nat.le_of_ble_eq_true rfl⟩ (fun H locs hP hD hS => ?_)
            obtain ⟨hP, hD⟩ := PD_cg hP hD 1 (enc (savB B z)) rfl (fun j _ => by rw [sav_c (by omega)]) (wn := List.flatten [mdO m0 m1 m2 m3 th (nI (savZ z)) kp ln ca lt fi sd hs, arC cI m1 1170 (enc (savB B z)), arC cI m2 60 T, arC cI m3 8 h]) rfl
            exact hend _ _ _ _ hP hD hS dX7_save_63
          · skip
            refine lv_iconst (v := 1) hx hb dX7_save_45 (by decide) ?_
            refine lv_goto (tgt := 50) hx hb dX7_save_46 (by decide) ?_
            refine lv_iadd hx hb dX7_save_50 ?_
            refine lv_eqi (y := nI (z + 1)) (nI_add _ _) ?_
            refine va_put (D := D) (ci := 7) (v := .int (nI (z + 1))) (ty := .int) (C := RX7) (T := TX7) (N := 12) hx hb hts hinX7 tyX7 tyX7_ok nmX7 hown hK hP hD hS 0 rfl rfl 2 (by decide) (hts (.fieldLink RX7 78 "RibbonBalloonsModel" "saved" "I") (by decide +kernel)) (fun _ h9 => h9) rfl (by decide +kernel) rfl rfl (Nat.le_of_ble_eq_true rfl) dX7_save_51 (fun H locs hP hD hS => ?_)
            have hP : va_P D vwCl (List.flatten [mdO m0 m1 m2 m3 th (nI (z + 1)) kp ln ca lt fi sd hs, arC cI m1 1170 (enc (shB B k)), arC cI m2 60 T, arC cI m3 8 h]) _ := hP
            have hD : va_D A (List.flatten [mdO m0 m1 m2 m3 th (nI (z + 1)) kp ln ca lt fi sd hs, arC cI m1 1170 (enc (shB B k)), arC cI m2 60 T, arC cI m3 8 h]) := hD
            have eZ : nI (z + 1) = nI (savZ z) := by unfold savZ; first | (exfalso; omega) | (rw [if_pos (by omega)]) | (rw [if_neg (by omega)]; rfl)
            obtain ⟨hP, hD⟩ := PD_re (wn := List.flatten [mdO m0 m1 m2 m3 th (nI (savZ z)) kp ln ca lt fi sd hs, arC cI m1 1170 (enc (shB B k)), arC cI m2 60 T, arC cI m3 8 h]) (by rw [eZ]) hP hD
            refine lv_aload_n hx hb dX7_save_54 rfl (lv_at hl 0 rfl) ?_
            refine lv_iconst (v := 0) hx hb dX7_save_55 (by decide) ?_
            refine lv_aload_n hx hb dX7_save_56 rfl (lv_at hl 0 rfl) ?_
            refine va_get (D := D) (ci := 7) (v := .int (nI (savZ z))) (C := RX7) (T := TX7) (N := 12) hx hb hts hinX7 hown hK hP 0 rfl rfl 2 (by decide) (hts (.fieldLink RX7 78 "RibbonBalloonsModel" "saved" "I") (by decide +kernel)) (fun _ h9 => h9) rfl dX7_save_57 ?_
            refine kcallV (As := [.int 0, .int (nI (savZ z))]) (rest := []) (Wn := [mdO m0 m1 m2 m3 th (nI (savZ z)) kp ln ca lt fi sd hs, arC cI m1 1170 (enc (uA (shB B k) (savZ z) ((shB B k) 0))), arC cI m2 60 T, arC cI m3 8 h]) X (c_X7_copies l D cI cZ cS cJ m0 m1 m2 m3 th (nI (savZ z)) kp ln ca lt fi sd hs (shB B k) T h 0 (savZ z) (by omega) (by have := savZ_le hz6; omega) (by unfold savZ; split <;> omega)) (cwV 2 hts gX7_save_X7_copies rfl rfl rfl (by decide +kernel) ⟨Nat.le_of_ble_eq_true rfl, Nat.le_of_ble_eq_true rfl⟩) hK hP hD hS hA [0, 1, 2, 3] rfl (by decide +kernel) rfl rfl rfl 0 7 rfl rfl rfl hl.1 rfl (Nat.le_of_ble_eq_true rfl) dX7_save_60 ⟨Nat.le_of_ble_eq_true rfl, Nat.le_of_ble_eq_true rfl⟩ (fun H locs hP hD hS => ?_)
            obtain ⟨hP, hD⟩ := PD_cg hP hD 1 (enc (savB B z)) rfl (fun j _ => by rw [sav_c (by omega)]) (wn := List.flatten [mdO m0 m1 m2 m3 th (nI (savZ z)) kp ln ca lt fi sd hs, arC cI m1 1170 (enc (savB B z)), arC cI m2 60 T, arC cI m3 8 h]) rfl
            exact hend _ _ _ _ hP hD hS dX7_save_63
        · skip
          refine lv_aload_n hx hb dX7_save_17 rfl (lv_at hl 0 rfl) ?_
          refine lv_iload_n hx hb dX7_save_18 rfl (lv_at hl 1 rfl) ?_
          refine lv_iconst (v := 1) hx hb dX7_save_19 (by decide) ?_
          refine lv_iadd hx hb dX7_save_20 ?_
          refine lv_eqi (y := nI (k + 1)) (nI_add _ _) ?_
          refine lv_iload_n hx hb dX7_save_21 rfl (lv_at hl 1 rfl) ?_
          refine kcallV (As := [.int (nI (k + 1)), .int (nI k)]) (rest := []) (Wn := [mdO m0 m1 m2 m3 th (nI z) kp ln ca lt fi sd hs, arC cI m1 1170 (enc (uA (shB B k) k ((shB B k) (k + 1)))), arC cI m2 60 T, arC cI m3 8 h]) X (c_X7_copies l D cI cZ cS cJ m0 m1 m2 m3 th (nI z) kp ln ca lt fi sd hs (shB B k) T h (k + 1) k (by omega) (by omega) (by omega)) (cwV 2 hts gX7_save_X7_copies rfl rfl rfl (by decide +kernel) ⟨Nat.le_of_ble_eq_true rfl, Nat.le_of_ble_eq_true rfl⟩) hK hP hD hS hA [0, 1, 2, 3] rfl (by decide +kernel) rfl rfl rfl 0 7 rfl rfl rfl hl.1 rfl (Nat.le_of_ble_eq_true rfl) dX7_save_22 ⟨Nat.le_of_ble_eq_true rfl, Nat.le_of_ble_eq_true rfl⟩ (fun H locs hP hD hS => ?_)
          refine lv_iinc (v := nI (k + 1)) (lv' := [(1, .int (nI (k + 1))), (0, .ref m0)]) hx hb dX7_save_25 hl (k := 1) rfl (nI_add _ _) (by decide) rfl (fun ls hl => ?_)
          refine lv_goto (tgt := 2) hx hb dX7_save_28 (by decide) ?_
          obtain ⟨hP, hD⟩ := PD_cg hP hD 1 (enc (shB B (k + 1))) rfl (fun j _ => by rw [shB_s (by omega)]) (wn := List.flatten [mdO m0 m1 m2 m3 th (nI z) kp ln ca lt fi sd hs, arC cI m1 1170 (enc (shB B (k + 1))), arC cI m2 60 T, arC cI m3 8 h]) rfl
          exact ih  (k + 1) trivial (by omega) (by omega) (Or.inr (by omega)) (by omega) _ _ _ hP hD hS (lv_sub hl [1, 0] rfl)
  obtain ⟨hP, hD⟩ := PD_cg hP hD 1 (enc (shB B 1)) rfl (fun j _ => by rw [shB_1]) (wn := List.flatten [mdO m0 m1 m2 m3 th (nI z) kp ln ca lt fi sd hs, arC cI m1 1170 (enc (shB B 1)), arC cI m2 60 T, arC cI m3 8 h]) rfl
  exact lp_2 (6 - 1 + 1) 1 trivial (by omega) (by omega) (Or.inl rfl) (Nat.lt_succ_self _) _ _ _ hP hD hS (lv_sub hl [1, 0] rfl)

set_option maxHeartbeats 4000000 in
set_option maxRecDepth 100000 in
theorem c_X7_changed (l : Launch) (D : va_G) (cI cZ cS cJ : ClassId) (m0 : Nat) (m1 : Nat) (m2 : Nat) (m3 : Nat) (th : Int32) (kp : Int32) (ln : Int32) (ca : Int32) (lt : Int32) (fi : Int32) (sd : Int32) (hs : Int64) (B : Nat → Nat → Nat → Int32) (T : Nat → Int32) (h : Nat → Int32) (z : Nat) (q : Nat) (x : Int32) (hz6 : z ≤ 6) (hq : q < 130) : C0 l yX7_changed wsX7_changed ({ frames := 2, cells := 0, slots := 0, locals := 44 }) D (tyL cI cZ cS cJ) [.ref m0, .int (nI q), .int x] (List.flatten [mdO m0 m1 m2 m3 th (nI z) kp ln ca lt fi sd hs, arC cI m1 1170 (enc B), arC cI m2 60 T, arC cI m3 8 h]) (some (.int (enc B q))) (List.flatten [mdO m0 m1 m2 m3 th (nI (savZ z)) kp ln ca lt fi sd hs, arC cI m1 1170 (upd (enc (savB B z)) q x), arC cI m2 60 T, arC cI m3 8 h]) 0 0 := by
  refine C0_int (cc := cX7_changed) (maxL := 4) (rt := .int) (by decide) rfl (Nat.le_of_ble_eq_true rfl) (rfl) ?_
  intro p e s m below meth c A ls Q X hK hP hD hS hA hl hend
  have X : CallFix p m c cX7_changed 4 s ([.ref m0, .int (nI q), .int x] : List Value).toArray wsX7_changed RX7 := X
  obtain ⟨hx, hb, hml, hown, hts⟩ := id X
  have hl : lv_has ls 4 [(0, .ref m0), (1, .int (nI q)), (2, .int x)] := hl
  have hinX7 : ∀ w ∈ u_ws RX7 TX7 12, w ∈ wsX7_changed := by decide +kernel
  refine lv_aload_n hx hb dX7_changed_0 rfl (lv_at hl 0 rfl) ?_
  refine kcallV (As := []) (rest := []) (Wn := [mdO m0 m1 m2 m3 th (nI (savZ z)) kp ln ca lt fi sd hs, arC cI m1 1170 (enc (savB B z)), arC cI m2 60 T, arC cI m3 8 h]) X (c_X7_save l D cI cZ cS cJ m0 m1 m2 m3 th kp ln ca lt fi sd hs B T h z (by omega)) (cwV 0 hts gX7_changed_X7_save rfl rfl rfl (by decide +kernel) ⟨Nat.le_of_ble_eq_true rfl, Nat.le_of_ble_eq_true rfl⟩) hK hP hD hS hA [0, 1, 2, 3] rfl (by decide +kernel) rfl rfl rfl 0 7 rfl rfl rfl hl.1 rfl (Nat.le_of_ble_eq_true rfl) dX7_changed_1 ⟨Nat.le_of_ble_eq_true rfl, Nat.le_of_ble_eq_true rfl⟩ (fun H locs hP hD hS => ?_)
  refine lv_aload_n hx hb dX7_changed_4 rfl (lv_at hl 0 rfl) ?_
  refine va_get (D := D) (ci := 7) (v := .ref m1) (C := RX7) (T := TX7) (N := 12) hx hb hts hinX7 hown hK hP 0 rfl rfl 1 (by decide) (hts (.fieldLink RX7 7 "RibbonBalloonsModel" "s" "[I") (by decide +kernel)) (fun _ h9 => h9) rfl dX7_changed_5 ?_
  refine lv_iload_n hx hb dX7_changed_8 rfl (lv_at hl 1 rfl) ?_
  refine r_iald hx hb hK hP 1 0 q (f := enc (savB B z)) rfl rfl (by omega) (by omega) dX7_changed_9 ?_
  refine lv_istore_n (lv' := [(3, .int ((enc (savB B z)) q)), (0, .ref m0), (1, .int (nI q)), (2, .int x)]) hx hb dX7_changed_10 rfl hl (by decide) rfl (fun ls hl => ?_)
  refine lv_aload_n hx hb dX7_changed_11 rfl (lv_at hl 1 rfl) ?_
  refine va_get (D := D) (ci := 7) (v := .ref m1) (C := RX7) (T := TX7) (N := 12) hx hb hts hinX7 hown hK hP 0 rfl rfl 1 (by decide) (hts (.fieldLink RX7 7 "RibbonBalloonsModel" "s" "[I") (by decide +kernel)) (fun _ h9 => h9) rfl dX7_changed_12 ?_
  refine lv_iload_n hx hb dX7_changed_15 rfl (lv_at hl 2 rfl) ?_
  refine lv_iload_n hx hb dX7_changed_16 rfl (lv_at hl 3 rfl) ?_
  refine r_iast hx hb hK hP hD hS 1 0 q (f := enc (savB B z)) (x := x) (wn := List.flatten [mdO m0 m1 m2 m3 th (nI (savZ z)) kp ln ca lt fi sd hs, arC cI m1 1170 (upd (enc (savB B z)) q x), arC cI m2 60 T, arC cI m3 8 h]) rfl rfl (by omega) (by omega) rfl dX7_changed_17 (fun H locs hP hD hS => ?_)
  refine lv_iload_n hx hb dX7_changed_18 rfl (lv_at hl 0 rfl) ?_
  refine hend _ _ _ _ _ ?_ hP hD hS dX7_changed_19
  exact enc_sav B z hq

set_option maxHeartbeats 4000000 in
set_option maxRecDepth 100000 in
theorem c_X7_noPut (l : Launch) (D : va_G) (cI cZ cS cJ : ClassId) (m0 : Nat) (m1 : Nat) (m2 : Nat) (m3 : Nat) (th : Int32) (sv : Int32) (kp : Int32) (ln : Int32) (ca : Int32) (lt : Int32) (fi : Int32) (sd : Int32) (hs : Int64) (B : Nat → Nat → Nat → Int32) (T : Nat → Int32) (h : Nat → Int32) (b : Nat) (hb8 : b < 8) (hG : GB (B 0)) (h6 : B 0 6 = ht (B 0)) : CE (U := (Nat → Int32)) l yX7_noPut wsX7_noPut ({ frames := 5, cells := 0, slots := 0, locals := 111 }) D (tyL cI cZ cS cJ) [.ref m0, .int (nI b)] (List.flatten [mdO m0 m1 m2 m3 th sv kp ln ca lt fi sd hs, arC cI m1 1170 (enc B), arC cI m2 60 T, arC cI m3 8 h]) (fun u => True) (fun u => some (.int (wn3 (B 0) b))) (fun u => List.flatten [mdO m0 m1 m2 m3 th sv kp ln ca lt fi sd hs, arC cI m1 1170 (enc B), arC cI m2 60 T, arC cI m3 8 u]) 0 0 := by
  refine CE_int (cc := cX7_noPut) (maxL := 2) (rt := .int) (by decide) rfl (Nat.le_of_ble_eq_true rfl) (fun _ _ => rfl) ?_
  intro p e s m below meth c A ls Q X hK hP hD hS hA hl hend
  have X : CallFix p m c cX7_noPut 2 s ([.ref m0, .int (nI b)] : List Value).toArray wsX7_noPut RX7 := X
  obtain ⟨hx, hb, hml, hown, hts⟩ := id X
  have hl : lv_has ls 2 [(0, .ref m0), (1, .int (nI b))] := hl
  refine lv_aload_n hx hb dX7_noPut_0 rfl (lv_at hl 0 rfl) ?_
  refine lv_iconst (v := 0) hx hb dX7_noPut_1 (by decide) ?_
  refine lv_eqi (y := nI (130 * 0)) (rfl) ?_
  refine lv_iload_n hx hb dX7_noPut_2 rfl (lv_at hl 1 rfl) ?_
  refine lv_iconst (v := 1) hx hb dX7_noPut_3 (by decide) ?_
  refine kcallV (As := [.int (nI (130 * 0)), .int (nI b), .int 1]) (rest := []) (Wn := [mdO m0 m1 m2 m3 th sv kp ln ca lt fi sd hs, arC cI m1 1170 (enc B), arC cI m2 60 T, arC cI m3 8 h]) X (c_X7_of1 l D cI cZ cS cJ m0 m1 m2 m3 th sv kp ln ca lt fi sd hs B T h 0 b (by omega) (by omega)) (cwV 3 hts gX7_noPut_X7_of rfl rfl rfl (by decide +kernel) ⟨Nat.le_of_ble_eq_true rfl, Nat.le_of_ble_eq_true rfl⟩) hK hP hD hS hA [0, 1, 2, 3] rfl (by decide +kernel) rfl rfl rfl 0 7 rfl rfl rfl hl.1 rfl (Nat.le_of_ble_eq_true rfl) dX7_noPut_4 ⟨Nat.le_of_ble_eq_true rfl, Nat.le_of_ble_eq_true rfl⟩ (fun H locs hP hD hS => ?_)
  refine lv_bipush (v := 10) hx hb dX7_noPut_7 (by decide) ?_
  refine lv_icmp_ne (tgt := 16) hx hb dX7_noPut_9 (by decide) (fun c9 => ?_) (fun c9 => ?_)
  · skip
    refine lv_aload_n hx hb dX7_noPut_16 rfl (lv_at hl 0 rfl) ?_
    refine lv_iload_n hx hb dX7_noPut_17 rfl (lv_at hl 1 rfl) ?_
    refine kcallV (As := [.int (nI b)]) (rest := []) (Wn := [mdO m0 m1 m2 m3 th sv kp ln ca lt fi sd hs, arC cI m1 1170 (enc B), arC cI m2 60 T, arC cI m3 8 (ht (B 0))]) X (c_X7_heightOf l D cI cZ cS cJ m0 m1 m2 m3 th sv kp ln ca lt fi sd hs B T h b (by omega) (GB_T hG)) (cwV 1 hts gX7_noPut_X7_heightOf rfl rfl rfl (by decide +kernel) ⟨Nat.le_of_ble_eq_true rfl, Nat.le_of_ble_eq_true rfl⟩) hK hP hD hS hA [0, 1, 2, 3] rfl (by decide +kernel) rfl rfl rfl 0 7 rfl rfl rfl hl.1 rfl (Nat.le_of_ble_eq_true rfl) dX7_noPut_18 ⟨Nat.le_of_ble_eq_true rfl, Nat.le_of_ble_eq_true rfl⟩ (fun H locs hP hD hS => ?_)
    refine lv_if_le (tgt := 29) hx hb dX7_noPut_21 (by decide) (fun c21 => ?_) (fun c21 => ?_)
    · skip
      refine lv_iconst (v := 0) hx hb dX7_noPut_29 (by decide) ?_
      refine hend (ht (B 0)) _ _ _ _ _ trivial ?_ hP hD hS dX7_noPut_30
      first | exact wn3_1 c9 | exact wn3_2 (hG.1 b hb8).2.1.2 h6 c9 c21 | exact wn3_3 (hG.1 b hb8).2.1.2 h6 c9 c21
    · skip
      refine lv_bipush (v := 6) hx hb dX7_noPut_24 (by decide) ?_
      refine lv_goto (tgt := 30) hx hb dX7_noPut_26 (by decide) ?_
      refine hend (ht (B 0)) _ _ _ _ _ trivial ?_ hP hD hS dX7_noPut_30
      first | exact wn3_1 c9 | exact wn3_2 (hG.1 b hb8).2.1.2 h6 c9 c21 | exact wn3_3 (hG.1 b hb8).2.1.2 h6 c9 c21
  · skip
    refine lv_iconst (v := 5) hx hb dX7_noPut_12 (by decide) ?_
    refine lv_goto (tgt := 30) hx hb dX7_noPut_13 (by decide) ?_
    refine hend (h) _ _ _ _ _ trivial ?_ hP hD hS dX7_noPut_30
    first | exact wn3_1 c9 | exact wn3_2 (hG.1 b hb8).2.1.2 h6 c9 c21 | exact wn3_3 (hG.1 b hb8).2.1.2 h6 c9 c21

set_option maxHeartbeats 4000000 in
set_option maxRecDepth 100000 in
theorem c_X7_noTie (l : Launch) (D : va_G) (cI cZ cS cJ : ClassId) (m0 : Nat) (m1 : Nat) (m2 : Nat) (m3 : Nat) (th : Int32) (sv : Int32) (kp : Int32) (ln : Int32) (ca : Int32) (lt : Int32) (fi : Int32) (sd : Int32) (hs : Int64) (B : Nat → Nat → Nat → Int32) (T : Nat → Int32) (h : Nat → Int32) (r : Nat) (x : Int32) (hr7 : r < 7) (hxi : 0 ≤ x.toInt ∧ x.toInt ≤ 300) (hG : GB (B 0)) (h6 : B 0 6 = ht (B 0)) : CE (U := (Nat → Int32)) l yX7_noTie wsX7_noTie ({ frames := 4, cells := 0, slots := 0, locals := 90 }) D (tyL cI cZ cS cJ) [.ref m0, .int (nI r), .int x] (List.flatten [mdO m0 m1 m2 m3 th sv kp ln ca lt fi sd hs, arC cI m1 1170 (enc B), arC cI m2 60 T, arC cI m3 8 h]) (fun u => True) (fun u => some (.int (wnt (B 0) r x))) (fun u => List.flatten [mdO m0 m1 m2 m3 th sv kp ln ca lt fi sd hs, arC cI m1 1170 (enc B), arC cI m2 60 T, arC cI m3 8 u]) 0 0 := by
  refine CE_int (cc := cX7_noTie) (maxL := 3) (rt := .int) (by decide) rfl (Nat.le_of_ble_eq_true rfl) (fun _ _ => rfl) ?_
  intro p e s m below meth c A ls Q X hK hP hD hS hA hl hend
  have X : CallFix p m c cX7_noTie 3 s ([.ref m0, .int (nI r), .int x] : List Value).toArray wsX7_noTie RX7 := X
  obtain ⟨hx, hb, hml, hown, hts⟩ := id X
  have hl : lv_has ls 3 [(0, .ref m0), (1, .int (nI r)), (2, .int x)] := hl
  have hinX7 : ∀ w ∈ u_ws RX7 TX7 12, w ∈ wsX7_noTie := by decide +kernel
  refine lv_aload_n hx hb dX7_noTie_0 rfl (lv_at hl 0 rfl) ?_
  refine lv_iconst (v := 0) hx hb dX7_noTie_1 (by decide) ?_
  refine lv_eqi (y := nI (130 * 0)) (rfl) ?_
  refine lv_iload_n hx hb dX7_noTie_2 rfl (lv_at hl 1 rfl) ?_
  refine kcallV (As := [.int (nI (130 * 0)), .int (nI r)]) (rest := []) (Wn := [mdO m0 m1 m2 m3 th sv kp ln ca lt fi sd hs, arC cI m1 1170 (enc B), arC cI m2 60 T, arC cI m3 8 h]) X (c_X7_isTied l D cI cZ cS cJ m0 m1 m2 m3 th sv kp ln ca lt fi sd hs B T h 0 r (by omega) (by omega) (GB_T hG)) (cwV 2 hts gX7_noTie_X7_isTied rfl rfl rfl (by decide +kernel) ⟨Nat.le_of_ble_eq_true rfl, Nat.le_of_ble_eq_true rfl⟩) hK hP hD hS hA [0, 1, 2, 3] rfl (by decide +kernel) rfl rfl rfl 0 7 rfl rfl rfl hl.1 rfl (Nat.le_of_ble_eq_true rfl) dX7_noTie_3 ⟨Nat.le_of_ble_eq_true rfl, Nat.le_of_ble_eq_true rfl⟩ (fun H locs hP hD hS => ?_)
  refine lv_if_eq (tgt := 12) hx hb dX7_noTie_6 (by decide) (fun c6 => ?_) (fun c6 => ?_)
  · skip
    refine lv_aload_n hx hb dX7_noTie_12 rfl (lv_at hl 0 rfl) ?_
    refine lv_iconst (v := 0) hx hb dX7_noTie_13 (by decide) ?_
    refine lv_eqi (y := nI (130 * 0)) (rfl) ?_
    refine kcallV (As := [.int (nI (130 * 0))]) (rest := []) (Wn := [mdO m0 m1 m2 m3 th sv kp ln ca lt fi sd hs, arC cI m1 1170 (enc B), arC cI m2 60 T, arC cI m3 8 (ht (B 0))]) X (c_X7_rises l D cI cZ cS cJ m0 m1 m2 m3 th sv kp ln ca lt fi sd hs B T h 0 (by omega) (GB_T hG)) (cwV 1 hts gX7_noTie_X7_rises rfl rfl rfl (by decide +kernel) ⟨Nat.le_of_ble_eq_true rfl, Nat.le_of_ble_eq_true rfl⟩) hK hP hD hS hA [0, 1, 2, 3] rfl (by decide +kernel) rfl rfl rfl 0 7 rfl rfl rfl hl.1 rfl (Nat.le_of_ble_eq_true rfl) dX7_noTie_14 ⟨Nat.le_of_ble_eq_true rfl, Nat.le_of_ble_eq_true rfl⟩ (fun H locs hP hD hS => ?_)
    refine lv_aload_n hx hb dX7_noTie_17 rfl (lv_at hl 0 rfl) ?_
    refine va_get (D := D) (ci := 7) (v := .ref m3) (C := RX7) (T := TX7) (N := 12) hx hb hts hinX7 hown hK hP 0 rfl rfl 10 (by decide) (hts (.fieldLink RX7 16 "RibbonBalloonsModel" "heights" "[I") (by decide +kernel)) (fun _ h9 => h9) rfl dX7_noTie_18 ?_
    refine lv_iload_n hx hb dX7_noTie_21 rfl (lv_at hl 1 rfl) ?_
    refine r_iald hx hb hK hP 3 0 r (f := ht (B 0)) rfl rfl (by omega) (by omega) dX7_noTie_22 ?_
    refine lv_aload_n hx hb dX7_noTie_23 rfl (lv_at hl 0 rfl) ?_
    refine va_get (D := D) (ci := 7) (v := .ref m3) (C := RX7) (T := TX7) (N := 12) hx hb hts hinX7 hown hK hP 0 rfl rfl 10 (by decide) (hts (.fieldLink RX7 16 "RibbonBalloonsModel" "heights" "[I") (by decide +kernel)) (fun _ h9 => h9) rfl dX7_noTie_24 ?_
    refine lv_iload_n hx hb dX7_noTie_27 rfl (lv_at hl 1 rfl) ?_
    refine lv_iconst (v := 1) hx hb dX7_noTie_28 (by decide) ?_
    refine lv_iadd hx hb dX7_noTie_29 ?_
    refine lv_eqi (y := nI (r + 1)) (nI_add _ _) ?_
    refine r_iald hx hb hK hP 3 0 (r + 1) (f := ht (B 0)) rfl rfl (by omega) (by omega) dX7_noTie_30 ?_
    refine lv_isub hx hb dX7_noTie_31 ?_
    refine lv_iload_n hx hb dX7_noTie_32 rfl (lv_at hl 2 rfl) ?_
    refine lv_ineg hx hb dX7_noTie_33 ?_
    refine lv_iload_n hx hb dX7_noTie_34 rfl (lv_at hl 2 rfl) ?_
    refine kcallS (As := [.int (((ht (B 0)) r) - ((ht (B 0)) (r + 1))), .int (-x), .int x]) (rest := []) (Wn := [mdO m0 m1 m2 m3 th sv kp ln ca lt fi sd hs, arC cI m1 1170 (enc B), arC cI m2 60 T, arC cI m3 8 (ht (B 0))]) X (c_X7_in l D cI cZ cS cJ (((ht (B 0)) r) - ((ht (B 0)) (r + 1))) (-x) x) (va_cwS 3 hts gX7_noTie_X7_in rfl rfl rfl (by decide +kernel) ⟨Nat.le_of_ble_eq_true rfl, Nat.le_of_ble_eq_true rfl⟩) hK hP hD hS hA [] rfl (by decide +kernel) rfl rfl rfl rfl hl.1 rfl (Nat.le_of_ble_eq_true rfl) dX7_noTie_35 ⟨Nat.le_of_ble_eq_true rfl, Nat.le_of_ble_eq_true rfl⟩ (fun H locs hP hD hS => ?_)
    refine lv_if_eq (tgt := 45) hx hb dX7_noTie_38 (by decide) (fun c38 => ?_) (fun c38 => ?_)
    · skip
      refine lv_bipush (v := 8) hx hb dX7_noTie_45 (by decide) ?_
      refine hend (ht (B 0)) _ _ _ _ _ trivial ?_ hP hD hS dX7_noTie_47
      rw [← wnt_R (Decidable.not_not.mp (b1_z c6)) hxi (by rw [h6]; exact ht_in hG (by omega)) (by rw [h6]; exact ht_in hG (by omega)), h6]
      first | exact (if_pos (b1_t c38)).symm | exact (if_neg (b1_z c38)).symm
    · skip
      refine lv_iconst (v := 0) hx hb dX7_noTie_41 (by decide) ?_
      refine lv_goto (tgt := 47) hx hb dX7_noTie_42 (by decide) ?_
      refine hend (ht (B 0)) _ _ _ _ _ trivial ?_ hP hD hS dX7_noTie_47
      rw [← wnt_R (Decidable.not_not.mp (b1_z c6)) hxi (by rw [h6]; exact ht_in hG (by omega)) (by rw [h6]; exact ht_in hG (by omega)), h6]
      first | exact (if_pos (b1_t c38)).symm | exact (if_neg (b1_z c38)).symm
  · skip
    refine lv_bipush (v := 7) hx hb dX7_noTie_9 (by decide) ?_
    refine hend (h) _ _ _ _ _ trivial ?_ hP hD hS dX7_noTie_11
    unfold wnt; rw [if_neg (b1_t c6)]

set_option maxHeartbeats 4000000 in
set_option maxRecDepth 100000 in
theorem c_X7_hour (l : Launch) (D : va_G) (cI cZ cS cJ : ClassId) (m0 : Nat) (m1 : Nat) (m2 : Nat) (m3 : Nat) (th : Int32) (sv : Int32) (kp : Int32) (ln : Int32) (ca : Int32) (lt : Int32) (fi : Int32) (sd : Int32) (hs : Int64) (B : Nat → Nat → Nat → Int32) (T : Nat → Int32) (h : Nat → Int32) (a : Nat) (ha : a ≤ 8) (hG : GB (B a)) : CE (U := (Nat → Int32)) l yX7_hour wsX7_hour ({ frames := 5, cells := 0, slots := 0, locals := 120 }) D (tyL cI cZ cS cJ) [.ref m0, .int (nI (130 * a))] (List.flatten [mdO m0 m1 m2 m3 th sv kp ln ca lt fi sd hs, arC cI m1 1170 (enc B), arC cI m2 60 T, arC cI m3 8 h]) (fun u => True) (fun u => some (.int (svn (B a)))) (fun u => List.flatten [mdO m0 m1 m2 m3 th sv kp ln ca lt fi sd hs, arC cI m1 1170 (enc (uA B a (hourS (B a)))), arC cI m2 60 T, arC cI m3 8 u]) 0 0 := by
  refine CE_int (cc := cX7_hour) (maxL := 4) (rt := .int) (by decide) rfl (Nat.le_of_ble_eq_true rfl) (fun _ _ => rfl) ?_
  intro p e s m below meth c A ls Q X hK hP hD hS hA hl hend
  have X : CallFix p m c cX7_hour 4 s ([.ref m0, .int (nI (130 * a))] : List Value).toArray wsX7_hour RX7 := X
  obtain ⟨hx, hb, hml, hown, hts⟩ := id X
  have hl : lv_has ls 4 [(0, .ref m0), (1, .int (nI (130 * a)))] := hl
  have hinX7 : ∀ w ∈ u_ws RX7 TX7 12, w ∈ wsX7_hour := by decide +kernel
  refine lv_aload_n hx hb dX7_hour_0 rfl (lv_at hl 0 rfl) ?_
  refine va_get (D := D) (ci := 7) (v := .ref m1) (C := RX7) (T := TX7) (N := 12) hx hb hts hinX7 hown hK hP 0 rfl rfl 1 (by decide) (hts (.fieldLink RX7 7 "RibbonBalloonsModel" "s" "[I") (by decide +kernel)) (fun _ h9 => h9) rfl dX7_hour_1 ?_
  refine lv_iload_n hx hb dX7_hour_4 rfl (lv_at hl 1 rfl) ?_
  refine lv_iconst (v := 0) hx hb dX7_hour_5 (by decide) ?_
  refine lv_iadd hx hb dX7_hour_6 ?_
  refine lv_eqi (y := nI ((130 * a) + 0)) (nI_add _ _) ?_
  refine lv_dup2_11 hx hb dX7_hour_7 rfl rfl ?_
  refine r_iald hx hb hK hP 1 0 ((130 * a) + 0) (f := enc B) rfl rfl (by omega) (by omega) dX7_hour_8 ?_
  refine lv_iconst (v := 1) hx hb dX7_hour_9 (by decide) ?_
  refine lv_iadd hx hb dX7_hour_10 ?_
  refine r_iast hx hb hK hP hD hS 1 0 ((130 * a) + 0) (f := enc B) (x := ((enc B) ((130 * a) + 0)) + 1) (wn := List.flatten [mdO m0 m1 m2 m3 th sv kp ln ca lt fi sd hs, arC cI m1 1170 (upd (enc B) ((130 * a) + 0) (((enc B) ((130 * a) + 0)) + 1)), arC cI m2 60 T, arC cI m3 8 h]) rfl rfl (by omega) (by omega) rfl dX7_hour_11 (fun H locs hP hD hS => ?_)
  refine lv_iconst (v := 0) hx hb dX7_hour_12 (by decide) ?_
  refine lv_istore_n (lv' := [(2, .int 0), (0, .ref m0), (1, .int (nI (130 * a)))]) hx hb dX7_hour_13 rfl hl (by decide) rfl (fun ls hl => ?_)
  have lp_14 : ∀ (nn : Nat) (i : Nat), True → (i ≤ 8) → 8 - i < nn → ∀ (H : Heap) (locs : List Loc) (ls : Array Slot), va_P D vwCl (List.flatten [mdO m0 m1 m2 m3 th sv kp ln ca lt fi sd hs, arC cI m1 1170 (enc (uA B a (hrw (hr1 (B a)) i))), arC cI m2 60 T, arC cI m3 8 h]) H → va_D A (List.flatten [mdO m0 m1 m2 m3 th sv kp ln ca lt fi sd hs, arC cI m1 1170 (enc (uA B a (hrw (hr1 (B a)) i))), arC cI m2 60 T, arC cI m3 8 h]) → va_S A s.heap H locs → lv_has ls 4 [(0, .ref m0), (1, .int (nI (130 * a))), (2, .int (nI i))] → W p l e ({ frames := 5, cells := 0, slots := 0, locals := 120 } : Room) s m ([.ref m0, .int (nI (130 * a))] : List Value).toArray below meth c H locs 0 0 Q (F0 m 14 ls []) := by
    intro nn
    induction nn with
    | zero => intro i _ hi hmz; exact absurd hmz (Nat.not_lt_zero _)
    | succ nn ih =>
      intro i _ hi hms H locs ls hP hD hS hl
      refine lv_iload_n hx hb dX7_hour_14 rfl (lv_at hl 2 rfl) ?_
      refine lv_bipush (v := 8) hx hb dX7_hour_15 (by decide) ?_
      refine n_ge (i := i) (j := 8) (tgt := 65) hx hb (by omega) (by omega) dX7_hour_17 (by decide) (fun c17 => ?_) (fun c17 => ?_)
      · skip
        obtain rfl : i = 8 := by omega
        have hP : va_P D vwCl (List.flatten [mdO m0 m1 m2 m3 th sv kp ln ca lt fi sd hs, arC cI m1 1170 (enc (uA B a (hrw (hr1 (B a)) 8))), arC cI m2 60 T, arC cI m3 8 h]) _ := hP
        have hD : va_D A (List.flatten [mdO m0 m1 m2 m3 th sv kp ln ca lt fi sd hs, arC cI m1 1170 (enc (uA B a (hrw (hr1 (B a)) 8))), arC cI m2 60 T, arC cI m3 8 h]) := hD
        have hl : lv_has ls 4 [(0, .ref m0), (1, .int (nI (130 * a))), (2, .int (nI 8))] := hl
        refine lv_aload_n hx hb dX7_hour_65 rfl (lv_at hl 0 rfl) ?_
        refine lv_iload_n hx hb dX7_hour_66 rfl (lv_at hl 1 rfl) ?_
        refine kcallV (As := [.int (nI (130 * a))]) (rest := []) (Wn := [mdO m0 m1 m2 m3 th sv kp ln ca lt fi sd hs, arC cI m1 1170 (enc (uA B a (hrw (hr1 (B a)) 8))), arC cI m2 60 T, arC cI m3 8 (ht ((uA B a (hrw (hr1 (B a)) 8)) a))]) X (c_X7_snapping l D cI cZ cS cJ m0 m1 m2 m3 th sv kp ln ca lt fi sd hs (uA B a (hrw (hr1 (B a)) 8)) T h a (by omega) (fun r h => by rw [uA_s]; exact (hG.2 r h).1)) (cwV 1 hts gX7_hour_X7_snapping rfl rfl rfl (by decide +kernel) ⟨Nat.le_of_ble_eq_true rfl, Nat.le_of_ble_eq_true rfl⟩) hK hP hD hS hA [0, 1, 2, 3] rfl (by decide +kernel) rfl rfl rfl 0 7 rfl rfl rfl hl.1 rfl (Nat.le_of_ble_eq_true rfl) dX7_hour_67 ⟨Nat.le_of_ble_eq_true rfl, Nat.le_of_ble_eq_true rfl⟩ (fun H locs hP hD hS => ?_)
        refine lv_eqi (y := (sn (hr2 (B a)) 7).1) (by rw [uA_s]; exact hr_sn hG) ?_
        refine lv_istore_n (lv' := [(2, .int ((sn (hr2 (B a)) 7).1)), (0, .ref m0), (1, .int (nI (130 * a)))]) hx hb dX7_hour_70 rfl hl (by decide) rfl (fun ls hl => ?_)
        refine lv_iload_n hx hb dX7_hour_71 rfl (lv_at hl 0 rfl) ?_
        refine lv_sipush (v := (-1000)) hx hb dX7_hour_72 (by decide) ?_
        refine lv_icmp_ne (tgt := 80) hx hb dX7_hour_75 (by decide) (fun c75 => ?_) (fun c75 => ?_)
        · skip
          obtain ⟨k, hk7, ek⟩ : ∃ k, k < 7 ∧ (sn (hr2 (B a)) 7).1 = nI k := (sn_nat (hr2 (B a)) 7).resolve_left c75
          have hl : lv_has ls 4 [(2, .int (nI k)), (0, .ref m0), (1, .int (nI (130 * a)))] := lv_re hl 0 (x := (sn (hr2 (B a)) 7).1) (y := nI k) rfl ek rfl
          refine lv_aload_n hx hb dX7_hour_80 rfl (lv_at hl 1 rfl) ?_
          refine va_get (D := D) (ci := 7) (v := .ref m1) (C := RX7) (T := TX7) (N := 12) hx hb hts hinX7 hown hK hP 0 rfl rfl 1 (by decide) (hts (.fieldLink RX7 7 "RibbonBalloonsModel" "s" "[I") (by decide +kernel)) (fun _ h9 => h9) rfl dX7_hour_81 ?_
          refine lv_iload_n hx hb dX7_hour_84 rfl (lv_at hl 2 rfl) ?_
          refine lv_bipush (v := 49) hx hb dX7_hour_85 (by decide) ?_
          refine lv_iadd hx hb dX7_hour_87 ?_
          refine lv_eqi (y := nI ((130 * a) + 49)) (nI_add _ _) ?_
          refine lv_iconst (v := 3) hx hb dX7_hour_88 (by decide) ?_
          refine lv_iload_n hx hb dX7_hour_89 rfl (lv_at hl 0 rfl) ?_
          refine lv_imul hx hb dX7_hour_90 ?_
          refine lv_eqi (y := nI (3 * k)) (pk_mul _ _) ?_
          refine lv_iadd hx hb dX7_hour_91 ?_
          refine lv_eqi (y := nI (((130 * a) + 49) + (3 * k))) (nI_add _ _) ?_
          refine lv_iconst (v := 0) hx hb dX7_hour_92 (by decide) ?_
          refine r_iast hx hb hK hP hD hS 1 0 (((130 * a) + 49) + (3 * k)) (f := enc (uA B a (hrw (hr1 (B a)) 8))) (x := 0) (wn := List.flatten [mdO m0 m1 m2 m3 th sv kp ln ca lt fi sd hs, arC cI m1 1170 (upd (enc (uA B a (hrw (hr1 (B a)) 8))) (((130 * a) + 49) + (3 * k)) 0), arC cI m2 60 T, arC cI m3 8 (ht ((uA B a (hrw (hr1 (B a)) 8)) a))]) rfl rfl (by omega) (by omega) rfl dX7_hour_93 (fun H locs hP hD hS => ?_)
          obtain ⟨hP, hD⟩ := PD_cg hP hD 1 (enc (uA B a (u2 (hrw (hr1 (B a)) 8) 3 k 0))) rfl (fun j _ => by rw [enc_ur0 _ _ _ hk7]) (wn := List.flatten [mdO m0 m1 m2 m3 th sv kp ln ca lt fi sd hs, arC cI m1 1170 (enc (uA B a (u2 (hrw (hr1 (B a)) 8) 3 k 0))), arC cI m2 60 T, arC cI m3 8 (ht ((uA B a (hrw (hr1 (B a)) 8)) a))]) rfl
          refine lv_aload_n hx hb dX7_hour_94 rfl (lv_at hl 1 rfl) ?_
          refine va_get (D := D) (ci := 7) (v := .ref m1) (C := RX7) (T := TX7) (N := 12) hx hb hts hinX7 hown hK hP 0 rfl rfl 1 (by decide) (hts (.fieldLink RX7 7 "RibbonBalloonsModel" "s" "[I") (by decide +kernel)) (fun _ h9 => h9) rfl dX7_hour_95 ?_
          refine lv_iload_n hx hb dX7_hour_98 rfl (lv_at hl 2 rfl) ?_
          refine lv_iconst (v := 4) hx hb dX7_hour_99 (by decide) ?_
          refine lv_iadd hx hb dX7_hour_100 ?_
          refine lv_eqi (y := nI ((130 * a) + 4)) (nI_add _ _) ?_
          refine lv_dup2_11 hx hb dX7_hour_101 rfl rfl ?_
          refine r_iald hx hb hK hP 1 0 ((130 * a) + 4) (f := enc (uA B a (u2 (hrw (hr1 (B a)) 8) 3 k 0))) rfl rfl (by omega) (by omega) dX7_hour_102 ?_
          refine lv_iconst (v := 1) hx hb dX7_hour_103 (by decide) ?_
          refine lv_iadd hx hb dX7_hour_104 ?_
          refine r_iast hx hb hK hP hD hS 1 0 ((130 * a) + 4) (f := enc (uA B a (u2 (hrw (hr1 (B a)) 8) 3 k 0))) (x := ((enc (uA B a (u2 (hrw (hr1 (B a)) 8) 3 k 0))) ((130 * a) + 4)) + 1) (wn := List.flatten [mdO m0 m1 m2 m3 th sv kp ln ca lt fi sd hs, arC cI m1 1170 (upd (enc (uA B a (u2 (hrw (hr1 (B a)) 8) 3 k 0))) ((130 * a) + 4) (((enc (uA B a (u2 (hrw (hr1 (B a)) 8) 3 k 0))) ((130 * a) + 4)) + 1)), arC cI m2 60 T, arC cI m3 8 (ht ((uA B a (hrw (hr1 (B a)) 8)) a))]) rfl rfl (by omega) (by omega) rfl dX7_hour_105 (fun H locs hP hD hS => ?_)
          obtain ⟨hP, hD⟩ := PD_cg hP hD 1 (enc (uA B a (hourS (B a)))) rfl (fun j _ => by rw [enc_sv _ _ _ (i := 4) (by decide), enc_uu _ _ _ (i := 4) (by decide)]; exact hr_e1 c75 ek hk7 B a j) (wn := List.flatten [mdO m0 m1 m2 m3 th sv kp ln ca lt fi sd hs, arC cI m1 1170 (enc (uA B a (hourS (B a)))), arC cI m2 60 T, arC cI m3 8 (ht ((uA B a (hrw (hr1 (B a)) 8)) a))]) rfl
          refine lv_iconst (v := 1) hx hb dX7_hour_106 (by decide) ?_
          refine hend (ht ((uA B a (hrw (hr1 (B a)) 8)) a)) _ _ _ _ _ trivial ?_ hP hD hS dX7_hour_107
          exact (if_neg c75).symm
        · skip
          obtain ⟨hP, hD⟩ := PD_cg hP hD 1 (enc (uA B a (hourS (B a)))) rfl (fun j _ => hr_e0 c75 B a j) (wn := List.flatten [mdO m0 m1 m2 m3 th sv kp ln ca lt fi sd hs, arC cI m1 1170 (enc (uA B a (hourS (B a)))), arC cI m2 60 T, arC cI m3 8 (ht ((uA B a (hrw (hr1 (B a)) 8)) a))]) rfl
          refine lv_iconst (v := 0) hx hb dX7_hour_78 (by decide) ?_
          refine hend (ht ((uA B a (hrw (hr1 (B a)) 8)) a)) _ _ _ _ _ trivial ?_ hP hD hS dX7_hour_79
          exact (if_pos c75).symm
      · skip
        refine lv_aload_n hx hb dX7_hour_20 rfl (lv_at hl 0 rfl) ?_
        refine lv_iload_n hx hb dX7_hour_21 rfl (lv_at hl 1 rfl) ?_
        refine lv_iload_n hx hb dX7_hour_22 rfl (lv_at hl 2 rfl) ?_
        refine lv_iconst (v := 2) hx hb dX7_hour_23 (by decide) ?_
        refine kcallV (As := [.int (nI (130 * a)), .int (nI i), .int 2]) (rest := []) (Wn := [mdO m0 m1 m2 m3 th sv kp ln ca lt fi sd hs, arC cI m1 1170 (enc (uA B a (hrw (hr1 (B a)) i))), arC cI m2 60 T, arC cI m3 8 h]) X (c_X7_of2 l D cI cZ cS cJ m0 m1 m2 m3 th sv kp ln ca lt fi sd hs (uA B a (hrw (hr1 (B a)) i)) T h a i (by omega) (by omega)) (cwV 3 hts gX7_hour_X7_of rfl rfl rfl (by decide +kernel) ⟨Nat.le_of_ble_eq_true rfl, Nat.le_of_ble_eq_true rfl⟩) hK hP hD hS hA [0, 1, 2, 3] rfl (by decide +kernel) rfl rfl rfl 0 7 rfl rfl rfl hl.1 rfl (Nat.le_of_ble_eq_true rfl) dX7_hour_24 ⟨Nat.le_of_ble_eq_true rfl, Nat.le_of_ble_eq_true rfl⟩ (fun H locs hP hD hS => ?_)
        refine lv_aload_n hx hb dX7_hour_27 rfl (lv_at hl 0 rfl) ?_
        refine lv_iload_n hx hb dX7_hour_28 rfl (lv_at hl 1 rfl) ?_
        refine lv_iload_n hx hb dX7_hour_29 rfl (lv_at hl 2 rfl) ?_
        refine lv_iconst (v := 0) hx hb dX7_hour_30 (by decide) ?_
        refine kcallV (As := [.int (nI (130 * a)), .int (nI i), .int 0]) (rest := [.int ((uA B a (hrw (hr1 (B a)) i)) a 2 i)]) (Wn := [mdO m0 m1 m2 m3 th sv kp ln ca lt fi sd hs, arC cI m1 1170 (enc (uA B a (hrw (hr1 (B a)) i))), arC cI m2 60 T, arC cI m3 8 h]) X (c_X7_of0 l D cI cZ cS cJ m0 m1 m2 m3 th sv kp ln ca lt fi sd hs (uA B a (hrw (hr1 (B a)) i)) T h a i (by omega) (by omega)) (cwV 3 hts gX7_hour_X7_of rfl rfl rfl (by decide +kernel) ⟨Nat.le_of_ble_eq_true rfl, Nat.le_of_ble_eq_true rfl⟩) hK hP hD hS hA [0, 1, 2, 3] rfl (by decide +kernel) rfl rfl rfl 0 7 rfl rfl rfl hl.1 rfl (Nat.le_of_ble_eq_true rfl) dX7_hour_31 ⟨Nat.le_of_ble_eq_true rfl, Nat.le_of_ble_eq_true rfl⟩ (fun H locs hP hD hS => ?_)
        refine kcallS (As := [.int ((uA B a (hrw (hr1 (B a)) i)) a 2 i), .int ((uA B a (hrw (hr1 (B a)) i)) a 0 i)]) (rest := []) (Wn := [mdO m0 m1 m2 m3 th sv kp ln ca lt fi sd hs, arC cI m1 1170 (enc (uA B a (hrw (hr1 (B a)) i))), arC cI m2 60 T, arC cI m3 8 h]) X (c_X7_lesser l D cI cZ cS cJ ((uA B a (hrw (hr1 (B a)) i)) a 2 i) ((uA B a (hrw (hr1 (B a)) i)) a 0 i)) (va_cwS 2 hts gX7_hour_X7_lesser rfl rfl rfl (by decide +kernel) ⟨Nat.le_of_ble_eq_true rfl, Nat.le_of_ble_eq_true rfl⟩) hK hP hD hS hA [] rfl (by decide +kernel) rfl rfl rfl rfl hl.1 rfl (Nat.le_of_ble_eq_true rfl) dX7_hour_34 ⟨Nat.le_of_ble_eq_true rfl, Nat.le_of_ble_eq_true rfl⟩ (fun H locs hP hD hS => ?_)
        refine lv_eqi (y := lks (hr1 (B a)) i) (by rw [uA_s]; exact hr_by _ _) ?_
        refine lv_istore_n (lv' := [(3, .int (lks (hr1 (B a)) i)), (0, .ref m0), (1, .int (nI (130 * a))), (2, .int (nI i))]) hx hb dX7_hour_37 rfl hl (by decide) rfl (fun ls hl => ?_)
        refine lv_aload_n hx hb dX7_hour_38 rfl (lv_at hl 1 rfl) ?_
        refine lv_iload_n hx hb dX7_hour_39 rfl (lv_at hl 2 rfl) ?_
        refine lv_iload_n hx hb dX7_hour_40 rfl (lv_at hl 3 rfl) ?_
        refine lv_iconst (v := 0) hx hb dX7_hour_41 (by decide) ?_
        refine lv_iload_n hx hb dX7_hour_42 rfl (lv_at hl 0 rfl) ?_
        refine lv_ineg hx hb dX7_hour_43 ?_
        refine kcallV (As := [.int (nI (130 * a)), .int (nI i), .int 0, .int (-(lks (hr1 (B a)) i))]) (rest := []) (Wn := [mdO m0 m1 m2 m3 th sv kp ln ca lt fi sd hs, arC cI m1 1170 (enc (uA (uA B a (hrw (hr1 (B a)) i)) a (u2 ((uA B a (hrw (hr1 (B a)) i)) a) 0 i (((uA B a (hrw (hr1 (B a)) i)) a 0 i) + (-(lks (hr1 (B a)) i)))))), arC cI m2 60 T, arC cI m3 8 h]) X (c_X7_adds0 l D cI cZ cS cJ m0 m1 m2 m3 th sv kp ln ca lt fi sd hs (uA B a (hrw (hr1 (B a)) i)) T h a i (-(lks (hr1 (B a)) i)) (by omega) (by omega)) (cwV 4 hts gX7_hour_X7_adds rfl rfl rfl (by decide +kernel) ⟨Nat.le_of_ble_eq_true rfl, Nat.le_of_ble_eq_true rfl⟩) hK hP hD hS hA [0, 1, 2, 3] rfl (by decide +kernel) rfl rfl rfl 0 7 rfl rfl rfl hl.1 rfl (Nat.le_of_ble_eq_true rfl) dX7_hour_44 ⟨Nat.le_of_ble_eq_true rfl, Nat.le_of_ble_eq_true rfl⟩ (fun H locs hP hD hS => ?_)
        obtain ⟨hP, hD⟩ := PD_cg hP hD 1 (enc (uA B a (hrv (hr1 (B a)) i))) rfl (fun j _ => by rw [uA_s, uA_uA, hr_v]) (wn := List.flatten [mdO m0 m1 m2 m3 th sv kp ln ca lt fi sd hs, arC cI m1 1170 (enc (uA B a (hrv (hr1 (B a)) i))), arC cI m2 60 T, arC cI m3 8 h]) rfl
        refine lv_aload_n hx hb dX7_hour_47 rfl (lv_at hl 1 rfl) ?_
        refine va_get (D := D) (ci := 7) (v := .ref m1) (C := RX7) (T := TX7) (N := 12) hx hb hts hinX7 hown hK hP 0 rfl rfl 1 (by decide) (hts (.fieldLink RX7 7 "RibbonBalloonsModel" "s" "[I") (by decide +kernel)) (fun _ h9 => h9) rfl dX7_hour_48 ?_
        refine lv_iload_n hx hb dX7_hour_51 rfl (lv_at hl 2 rfl) ?_
        refine lv_iconst (v := 2) hx hb dX7_hour_52 (by decide) ?_
        refine lv_iadd hx hb dX7_hour_53 ?_
        refine lv_eqi (y := nI ((130 * a) + 2)) (nI_add _ _) ?_
        refine lv_dup2_11 hx hb dX7_hour_54 rfl rfl ?_
        refine r_iald hx hb hK hP 1 0 ((130 * a) + 2) (f := enc (uA B a (hrv (hr1 (B a)) i))) rfl rfl (by omega) (by omega) dX7_hour_55 ?_
        refine lv_iload_n hx hb dX7_hour_56 rfl (lv_at hl 0 rfl) ?_
        refine lv_iadd hx hb dX7_hour_57 ?_
        refine r_iast hx hb hK hP hD hS 1 0 ((130 * a) + 2) (f := enc (uA B a (hrv (hr1 (B a)) i))) (x := ((enc (uA B a (hrv (hr1 (B a)) i))) ((130 * a) + 2)) + (lks (hr1 (B a)) i)) (wn := List.flatten [mdO m0 m1 m2 m3 th sv kp ln ca lt fi sd hs, arC cI m1 1170 (upd (enc (uA B a (hrv (hr1 (B a)) i))) ((130 * a) + 2) (((enc (uA B a (hrv (hr1 (B a)) i))) ((130 * a) + 2)) + (lks (hr1 (B a)) i))), arC cI m2 60 T, arC cI m3 8 h]) rfl rfl (by omega) (by omega) rfl dX7_hour_58 (fun H locs hP hD hS => ?_)
        refine lv_iinc (v := nI (i + 1)) (lv' := [(2, .int (nI (i + 1))), (3, .int (lks (hr1 (B a)) i)), (0, .ref m0), (1, .int (nI (130 * a)))]) hx hb dX7_hour_59 hl (k := 3) rfl (nI_add _ _) (by decide) rfl (fun ls hl => ?_)
        refine lv_goto (tgt := 14) hx hb dX7_hour_62 (by decide) ?_
        obtain ⟨hP, hD⟩ := PD_cg hP hD 1 (enc (uA B a (hrw (hr1 (B a)) (i + 1)))) rfl (fun j _ => by rw [enc_sv _ _ _ (by decide), enc_uu _ _ _ (by decide), hr_w]) (wn := List.flatten [mdO m0 m1 m2 m3 th sv kp ln ca lt fi sd hs, arC cI m1 1170 (enc (uA B a (hrw (hr1 (B a)) (i + 1)))), arC cI m2 60 T, arC cI m3 8 h]) rfl
        exact ih  (i + 1) trivial (by omega) (by omega) _ _ _ hP hD hS (lv_sub hl [2, 3, 0] rfl)
  obtain ⟨hP, hD⟩ := PD_cg hP hD 1 (enc (uA B a (hrw (hr1 (B a)) 0))) rfl (fun j _ => by rw [hrw_0, enc_s B (a := a) (i := 0) (by decide), enc_us B (a := a) (i := 0) (by decide)]; rfl) (wn := List.flatten [mdO m0 m1 m2 m3 th sv kp ln ca lt fi sd hs, arC cI m1 1170 (enc (uA B a (hrw (hr1 (B a)) 0))), arC cI m2 60 T, arC cI m3 8 h]) rfl
  exact lp_14 (8 - 0 + 1) 0 trivial (by omega) (Nat.lt_succ_self _) _ _ _ hP hD hS (lv_sub hl [1, 2, 0] rfl)

set_option maxHeartbeats 4000000 in
set_option maxRecDepth 100000 in
theorem c_X7_passes (l : Launch) (D : va_G) (cI cZ cS cJ : ClassId) (m0 : Nat) (m1 : Nat) (m2 : Nat) (m3 : Nat) (th : Int32) (sv : Int32) (kp : Int32) (ln : Int32) (ca : Int32) (lt : Int32) (fi : Int32) (sd : Int32) (hs : Int64) (B : Nat → Nat → Nat → Int32) (T : Nat → Int32) (h : Nat → Int32) (n : Nat) (hn : n < 1000) (hG : GB (B 0)) : CE (U := (Nat → Int32)) l yX7_passes wsX7_passes ({ frames := 6, cells := 0, slots := 0, locals := 143 }) D (tyL cI cZ cS cJ) [.ref m0, .int (nI n)] (List.flatten [mdO m0 m1 m2 m3 th sv kp ln ca lt fi sd hs, arC cI m1 1170 (enc B), arC cI m2 60 T, arC cI m3 8 h]) (fun u => True) (fun u => some (.int (sm (fun k => svn (hrs (B 0) k)) n))) (fun u => List.flatten [mdO m0 m1 m2 m3 th sv kp ln ca lt fi sd hs, arC cI m1 1170 (enc (uA B 0 (hrs (B 0) n))), arC cI m2 60 T, arC cI m3 8 u]) 0 0 := by
  refine CE_int (cc := cX7_passes) (maxL := 4) (rt := .int) (by decide) rfl (Nat.le_of_ble_eq_true rfl) (fun _ _ => rfl) ?_
  intro p e s m below meth c A ls Q X hK hP hD hS hA hl hend
  have X : CallFix p m c cX7_passes 4 s ([.ref m0, .int (nI n)] : List Value).toArray wsX7_passes RX7 := X
  obtain ⟨hx, hb, hml, hown, hts⟩ := id X
  have hl : lv_has ls 4 [(0, .ref m0), (1, .int (nI n))] := hl
  refine lv_iconst (v := 0) hx hb dX7_passes_0 (by decide) ?_
  refine lv_istore_n (lv' := [(2, .int 0), (0, .ref m0), (1, .int (nI n))]) hx hb dX7_passes_1 rfl hl (by decide) rfl (fun ls hl => ?_)
  refine lv_iconst (v := 0) hx hb dX7_passes_2 (by decide) ?_
  refine lv_istore_n (lv' := [(3, .int 0), (2, .int 0), (0, .ref m0), (1, .int (nI n))]) hx hb dX7_passes_3 rfl hl (by decide) rfl (fun ls hl => ?_)
  have lp_4 : ∀ (nn : Nat) (i : Nat) (hh : Nat → Int32), True → (i ≤ n) → n - i < nn → ∀ (H : Heap) (locs : List Loc) (ls : Array Slot), va_P D vwCl (List.flatten [mdO m0 m1 m2 m3 th sv kp ln ca lt fi sd hs, arC cI m1 1170 (enc (uA B 0 (hrs (B 0) i))), arC cI m2 60 T, arC cI m3 8 hh]) H → va_D A (List.flatten [mdO m0 m1 m2 m3 th sv kp ln ca lt fi sd hs, arC cI m1 1170 (enc (uA B 0 (hrs (B 0) i))), arC cI m2 60 T, arC cI m3 8 hh]) → va_S A s.heap H locs → lv_has ls 4 [(0, .ref m0), (1, .int (nI n)), (2, .int (sm (fun k => svn (hrs (B 0) k)) i)), (3, .int (nI i))] → W p l e ({ frames := 6, cells := 0, slots := 0, locals := 143 } : Room) s m ([.ref m0, .int (nI n)] : List Value).toArray below meth c H locs 0 0 Q (F0 m 4 ls []) := by
    intro nn
    induction nn with
    | zero => intro i hh _ hi hmz; exact absurd hmz (Nat.not_lt_zero _)
    | succ nn ih =>
      intro i hh _ hi hms H locs ls hP hD hS hl
      refine lv_iload_n hx hb dX7_passes_4 rfl (lv_at hl 3 rfl) ?_
      refine lv_iload_n hx hb dX7_passes_5 rfl (lv_at hl 1 rfl) ?_
      refine n_ge (i := i) (j := n) (tgt := 23) hx hb (by omega) (by omega) dX7_passes_6 (by decide) (fun c6 => ?_) (fun c6 => ?_)
      · skip
        obtain rfl : n = i := by omega
        have hP : va_P D vwCl (List.flatten [mdO m0 m1 m2 m3 th sv kp ln ca lt fi sd hs, arC cI m1 1170 (enc (uA B 0 (hrs (B 0) n))), arC cI m2 60 T, arC cI m3 8 hh]) _ := hP
        have hD : va_D A (List.flatten [mdO m0 m1 m2 m3 th sv kp ln ca lt fi sd hs, arC cI m1 1170 (enc (uA B 0 (hrs (B 0) n))), arC cI m2 60 T, arC cI m3 8 hh]) := hD
        have hl : lv_has ls 4 [(0, .ref m0), (1, .int (nI n)), (2, .int (sm (fun k => svn (hrs (B 0) k)) n)), (3, .int (nI n))] := hl
        refine lv_iload_n hx hb dX7_passes_23 rfl (lv_at hl 2 rfl) ?_
        refine hend (hh) _ _ _ _ _ trivial ?_ hP hD hS dX7_passes_24
        exact rfl
      · skip
        refine lv_iload_n hx hb dX7_passes_9 rfl (lv_at hl 2 rfl) ?_
        refine lv_aload_n hx hb dX7_passes_10 rfl (lv_at hl 0 rfl) ?_
        refine lv_iconst (v := 0) hx hb dX7_passes_11 (by decide) ?_
        refine lv_eqi (y := nI (130 * 0)) (rfl) ?_
        refine kcallVE (As := [.int (nI (130 * 0))]) (rest := [.int (sm (fun k => svn (hrs (B 0) k)) i)]) (Wn := fun u => [mdO m0 m1 m2 m3 th sv kp ln ca lt fi sd hs, arC cI m1 1170 (enc (uA (uA B 0 (hrs (B 0) i)) 0 (hourS ((uA B 0 (hrs (B 0) i)) 0)))), arC cI m2 60 T, arC cI m3 8 u]) X (c_X7_hour l D cI cZ cS cJ m0 m1 m2 m3 th sv kp ln ca lt fi sd hs (uA B 0 (hrs (B 0) i)) T hh 0 (by omega) (by rw [uA_s]; exact GB_hrs hG i)) (cwV 1 hts gX7_passes_X7_hour rfl rfl rfl (by decide +kernel) ⟨Nat.le_of_ble_eq_true rfl, Nat.le_of_ble_eq_true rfl⟩) hK hP hD hS hA [0, 1, 2, 3] rfl (by decide +kernel) (fun _ => rfl) (fun _ => rfl) (fun _ => rfl) 0 7 rfl rfl rfl hl.1 rfl (Nat.le_of_ble_eq_true rfl) dX7_passes_12 ⟨Nat.le_of_ble_eq_true rfl, Nat.le_of_ble_eq_true rfl⟩ (fun h9_1 H locs hu hP hD hS => ?_)
        have hP : va_P D vwCl (List.flatten [mdO m0 m1 m2 m3 th sv kp ln ca lt fi sd hs, arC cI m1 1170 (enc (uA (uA B 0 (hrs (B 0) i)) 0 (hourS ((uA B 0 (hrs (B 0) i)) 0)))), arC cI m2 60 T, arC cI m3 8 h9_1]) _ := hP
        have hD : va_D A (List.flatten [mdO m0 m1 m2 m3 th sv kp ln ca lt fi sd hs, arC cI m1 1170 (enc (uA (uA B 0 (hrs (B 0) i)) 0 (hourS ((uA B 0 (hrs (B 0) i)) 0)))), arC cI m2 60 T, arC cI m3 8 h9_1]) := hD
        refine lv_iadd hx hb dX7_passes_15 ?_
        refine lv_istore_n (lv' := [(2, .int ((sm (fun k => svn (hrs (B 0) k)) i) + (svn ((uA B 0 (hrs (B 0) i)) 0)))), (0, .ref m0), (1, .int (nI n)), (3, .int (nI i))]) hx hb dX7_passes_16 rfl hl (by decide) rfl (fun ls hl => ?_)
        refine lv_iinc (v := nI (i + 1)) (lv' := [(3, .int (nI (i + 1))), (2, .int ((sm (fun k => svn (hrs (B 0) k)) i) + (svn ((uA B 0 (hrs (B 0) i)) 0)))), (0, .ref m0), (1, .int (nI n))]) hx hb dX7_passes_17 hl (k := 3) rfl (nI_add _ _) (by decide) rfl (fun ls hl => ?_)
        refine lv_goto (tgt := 4) hx hb dX7_passes_20 (by decide) ?_
        obtain ⟨hP, hD⟩ := PD_cg hP hD 1 (enc (uA B 0 (hrs (B 0) (i + 1)))) rfl (fun j _ => by rw [uA_s, uA_uA]; rfl) (wn := List.flatten [mdO m0 m1 m2 m3 th sv kp ln ca lt fi sd hs, arC cI m1 1170 (enc (uA B 0 (hrs (B 0) (i + 1)))), arC cI m2 60 T, arC cI m3 8 h9_1]) rfl
        have hl : lv_has ls 4 [(3, .int (nI (i + 1))), (2, .int (sm (fun k => svn (hrs (B 0) k)) (i + 1))), (0, .ref m0), (1, .int (nI n))] := lv_re hl 1 (x := (sm (fun k => svn (hrs (B 0) k)) i) + (svn ((uA B 0 (hrs (B 0) i)) 0))) (y := sm (fun k => svn (hrs (B 0) k)) (i + 1)) rfl (by rw [uA_s]; rfl) rfl
        exact ih  (i + 1) h9_1 trivial (by omega) (by omega) _ _ _ hP hD hS (lv_sub hl [2, 3, 1, 0] rfl)
  obtain ⟨hP, hD⟩ := PD_cg hP hD 1 (enc (uA B 0 (hrs (B 0) 0))) rfl (fun j _ => by rw [show hrs (B 0) 0 = B 0 from rfl, uA_id]) (wn := List.flatten [mdO m0 m1 m2 m3 th sv kp ln ca lt fi sd hs, arC cI m1 1170 (enc (uA B 0 (hrs (B 0) 0))), arC cI m2 60 T, arC cI m3 8 h]) rfl
  exact lp_4 (n - 0 + 1) 0 h trivial (by omega) (Nat.lt_succ_self _) _ _ _ hP hD hS (lv_sub hl [2, 3, 1, 0] rfl)

set_option maxHeartbeats 4000000 in
set_option maxRecDepth 100000 in
theorem c_X7_notes (l : Launch) (D : va_G) (cI cZ cS cJ : ClassId) (m0 : Nat) (m1 : Nat) (m2 : Nat) (m3 : Nat) (th : Int32) (sv : Int32) (kp : Int32) (ln : Int32) (ca : Int32) (lt : Int32) (fi : Int32) (sd : Int32) (hs : Int64) (B : Nat → Nat → Nat → Int32) (T : Nat → Int32) (h : Nat → Int32) (y : Nat) (b : Nat) (hy : B 0 12 8 = nI y) (hy20 : y ≤ 20) (hb8 : b < 8) (hG : GB (B 0)) (h6 : B 0 6 = ht (B 0)) : CE (U := (Nat → Int32)) l yX7_notes wsX7_notes ({ frames := 6, cells := 0, slots := 0, locals := 132 }) D (tyL cI cZ cS cJ) [.ref m0, .int (nI b)] (List.flatten [mdO m0 m1 m2 m3 th sv kp ln ca lt fi sd hs, arC cI m1 1170 (enc B), arC cI m2 60 T, arC cI m3 8 h]) (fun u => True) (fun u => some (.int (tel (B 0) b))) (fun u => List.flatten [mdO m0 m1 m2 m3 th sv kp ln ca lt fi sd hs, arC cI m1 1170 (enc (uA B 0 (notS (B 0) y b))), arC cI m2 60 T, arC cI m3 8 u]) 0 0 := by
  refine CE_int (cc := cX7_notes) (maxL := 5) (rt := .int) (by decide) rfl (Nat.le_of_ble_eq_true rfl) (fun _ _ => rfl) ?_
  intro p e s m below meth c A ls Q X hK hP hD hS hA hl hend
  have X : CallFix p m c cX7_notes 5 s ([.ref m0, .int (nI b)] : List Value).toArray wsX7_notes RX7 := X
  obtain ⟨hx, hb, hml, hown, hts⟩ := id X
  have hl : lv_has ls 5 [(0, .ref m0), (1, .int (nI b))] := hl
  have hinX7 : ∀ w ∈ u_ws RX7 TX7 12, w ∈ wsX7_notes := by decide +kernel
  refine lv_aload_n hx hb dX7_notes_0 rfl (lv_at hl 0 rfl) ?_
  refine lv_iload_n hx hb dX7_notes_1 rfl (lv_at hl 1 rfl) ?_
  refine kcallV (As := [.int (nI b)]) (rest := []) (Wn := [mdO m0 m1 m2 m3 th sv kp ln ca lt fi sd hs, arC cI m1 1170 (enc B), arC cI m2 60 T, arC cI m3 8 (ht (B 0))]) X (c_X7_tells l D cI cZ cS cJ m0 m1 m2 m3 th sv kp ln ca lt fi sd hs B T h b (by omega) (GB_T hG)) (cwV 1 hts gX7_notes_X7_tells rfl rfl rfl (by decide +kernel) ⟨Nat.le_of_ble_eq_true rfl, Nat.le_of_ble_eq_true rfl⟩) hK hP hD hS hA [0, 1, 2, 3] rfl (by decide +kernel) rfl rfl rfl 0 7 rfl rfl rfl hl.1 rfl (Nat.le_of_ble_eq_true rfl) dX7_notes_2 ⟨Nat.le_of_ble_eq_true rfl, Nat.le_of_ble_eq_true rfl⟩ (fun H locs hP hD hS => ?_)
  refine lv_eqi (y := tel (B 0) b) (by rw [mend_id h6]) ?_
  refine lv_istore_n (lv' := [(2, .int (tel (B 0) b)), (0, .ref m0), (1, .int (nI b))]) hx hb dX7_notes_5 rfl hl (by decide) rfl (fun ls hl => ?_)
  refine lv_iconst (v := 0) hx hb dX7_notes_6 (by decide) ?_
  refine lv_istore_n (lv' := [(3, .int 0), (2, .int (tel (B 0) b)), (0, .ref m0), (1, .int (nI b))]) hx hb dX7_notes_7 rfl hl (by decide) rfl (fun ls hl => ?_)
  have lp_8 : ∀ (nn : Nat) (k : Nat), True → (k ≤ y) → (plk (B 0) (nI b) (B 0 12 0) (y - k) k = plc (B 0) y (nI b) (B 0 12 0)) → y - k < nn → ∀ (H : Heap) (locs : List Loc) (ls : Array Slot), va_P D vwCl (List.flatten [mdO m0 m1 m2 m3 th sv kp ln ca lt fi sd hs, arC cI m1 1170 (enc B), arC cI m2 60 T, arC cI m3 8 (ht (B 0))]) H → va_D A (List.flatten [mdO m0 m1 m2 m3 th sv kp ln ca lt fi sd hs, arC cI m1 1170 (enc B), arC cI m2 60 T, arC cI m3 8 (ht (B 0))]) → va_S A s.heap H locs → lv_has ls 5 [(0, .ref m0), (1, .int (nI b)), (2, .int (tel (B 0) b)), (3, .int (nI k))] → W p l e ({ frames := 6, cells := 0, slots := 0, locals := 132 } : Room) s m ([.ref m0, .int (nI b)] : List Value).toArray below meth c H locs 0 0 Q (F0 m 8 ls []) := by
    intro nn
    induction nn with
    | zero => intro k _ hk hinv hmz; exact absurd hmz (Nat.not_lt_zero _)
    | succ nn ih =>
      intro k _ hk hinv hms H locs ls hP hD hS hl
      refine lv_iload_n hx hb dX7_notes_8 rfl (lv_at hl 3 rfl) ?_
      refine lv_aload_n hx hb dX7_notes_9 rfl (lv_at hl 0 rfl) ?_
      refine va_get (D := D) (ci := 7) (v := .ref m1) (C := RX7) (T := TX7) (N := 12) hx hb hts hinX7 hown hK hP 0 rfl rfl 1 (by decide) (hts (.fieldLink RX7 7 "RibbonBalloonsModel" "s" "[I") (by decide +kernel)) (fun _ h9 => h9) rfl dX7_notes_10 ?_
      refine lv_bipush (v := 8) hx hb dX7_notes_13 (by decide) ?_
      refine r_iald hx hb hK hP 1 0 8 (f := enc B) rfl rfl (by omega) (by omega) dX7_notes_15 ?_
      refine lv_eqi (y := nI y) ((enc_at0 B (by decide)).trans hy) ?_
      refine n_ge (i := k) (j := y) (tgt := 62) hx hb (by omega) (by omega) dX7_notes_16 (by decide) (fun c16 => ?_) (fun c16 => ?_)
      · skip
        have ekp : k = (plc (B 0) y (nI b) (B 0 12 0)) := by first | exact plk_f (by omega) c31 c53 hinv | (have e := plk_o hk c16 hinv; omega)
        refine lv_iload_n hx hb dX7_notes_62 rfl (lv_at hl 3 rfl) ?_
        refine lv_bipush (v := 20) hx hb dX7_notes_63 (by decide) ?_
        refine n_ne (i := k) (j := 20) (tgt := 109) hx hb (by omega) (by omega) dX7_notes_65 (by decide) (fun c65 => ?_) (fun c65 => ?_)
        · skip
          have hl : lv_has ls 5 [(0, .ref m0), (1, .int (nI b)), (2, .int (tel (B 0) b)), (3, .int (nI (ntp k)))] := lv_re hl 3 (x := nI k) (y := nI (ntp k)) rfl (by first | exact ntp_a c65 | exact ntp_b c65) rfl
          have hnp : ntp k < 20 := ntp_lt hk hy20
          obtain ⟨hP, hD⟩ := PD_cg hP hD 1 (enc (uA B 0 (ntM (B 0) k))) rfl (fun j _ => by first | exact ntM_a c65 j | exact ntM_b c65 (by omega) (by omega) j) (wn := List.flatten [mdO m0 m1 m2 m3 th sv kp ln ca lt fi sd hs, arC cI m1 1170 (enc (uA B 0 (ntM (B 0) k))), arC cI m2 60 T, arC cI m3 8 (ht (B 0))]) rfl
          refine lv_aload_n hx hb dX7_notes_109 rfl (lv_at hl 0 rfl) ?_
          refine va_get (D := D) (ci := 7) (v := .ref m1) (C := RX7) (T := TX7) (N := 12) hx hb hts hinX7 hown hK hP 0 rfl rfl 1 (by decide) (hts (.fieldLink RX7 7 "RibbonBalloonsModel" "s" "[I") (by decide +kernel)) (fun _ h9 => h9) rfl dX7_notes_110 ?_
          refine lv_bipush (v := 8) hx hb dX7_notes_113 (by decide) ?_
          refine lv_iload_n hx hb dX7_notes_115 rfl (lv_at hl 3 rfl) ?_
          refine lv_aload_n hx hb dX7_notes_116 rfl (lv_at hl 0 rfl) ?_
          refine va_get (D := D) (ci := 7) (v := .ref m1) (C := RX7) (T := TX7) (N := 12) hx hb hts hinX7 hown hK hP 0 rfl rfl 1 (by decide) (hts (.fieldLink RX7 7 "RibbonBalloonsModel" "s" "[I") (by decide +kernel)) (fun _ h9 => h9) rfl dX7_notes_117 ?_
          refine lv_bipush (v := 8) hx hb dX7_notes_120 (by decide) ?_
          refine r_iald hx hb hK hP 1 0 8 (f := enc (uA B 0 (ntM (B 0) k))) rfl rfl (by omega) (by omega) dX7_notes_122 ?_
          refine lv_eqi (y := nI y) (by rw [enc_at0 _ (by decide), uA_s, ntM_12]; exact hy) ?_
          refine n_ge (i := ntp k) (j := y) (tgt := 136) hx hb (by omega) (by omega) dX7_notes_123 (by decide) (fun c123 => ?_) (fun c123 => ?_)
          · skip
            refine lv_iload_n hx hb dX7_notes_136 rfl (lv_at hl 3 rfl) ?_
            refine lv_iconst (v := 1) hx hb dX7_notes_137 (by decide) ?_
            refine lv_iadd hx hb dX7_notes_138 ?_
            refine lv_eqi (y := nI ((ntp k) + 1)) (nI_add _ _) ?_
            refine r_iast hx hb hK hP hD hS 1 0 8 (f := enc (uA B 0 (ntM (B 0) k))) (x := nI ((ntp k) + 1)) (wn := List.flatten [mdO m0 m1 m2 m3 th sv kp ln ca lt fi sd hs, arC cI m1 1170 (upd (enc (uA B 0 (ntM (B 0) k))) 8 (nI ((ntp k) + 1))), arC cI m2 60 T, arC cI m3 8 (ht (B 0))]) rfl rfl (by omega) (by omega) rfl dX7_notes_139 (fun H locs hP hD hS => ?_)
            obtain ⟨hP, hD⟩ := PD_cg hP hD 1 (enc (uA B 0 (u2 (ntM (B 0) k) 12 8 (nI (nsz y k))))) rfl (fun j _ => by rw [enc_u0 _ _ (by decide)]; first | rw [nsz_1 hk hy20 (by omega)] | rw [nsz_2 hk hy20 (by omega)]) (wn := List.flatten [mdO m0 m1 m2 m3 th sv kp ln ca lt fi sd hs, arC cI m1 1170 (enc (uA B 0 (u2 (ntM (B 0) k) 12 8 (nI (nsz y k))))), arC cI m2 60 T, arC cI m3 8 (ht (B 0))]) rfl
            refine lv_aload_n hx hb dX7_notes_140 rfl (lv_at hl 0 rfl) ?_
            refine va_get (D := D) (ci := 7) (v := .ref m1) (C := RX7) (T := TX7) (N := 12) hx hb hts hinX7 hown hK hP 0 rfl rfl 1 (by decide) (hts (.fieldLink RX7 7 "RibbonBalloonsModel" "s" "[I") (by decide +kernel)) (fun _ h9 => h9) rfl dX7_notes_141 ?_
            refine lv_bipush (v := 70) hx hb dX7_notes_144 (by decide) ?_
            refine lv_iconst (v := 3) hx hb dX7_notes_146 (by decide) ?_
            refine lv_iload_n hx hb dX7_notes_147 rfl (lv_at hl 3 rfl) ?_
            refine lv_imul hx hb dX7_notes_148 ?_
            refine lv_eqi (y := nI (3 * (ntp k))) (pk_mul _ _) ?_
            refine lv_iadd hx hb dX7_notes_149 ?_
            refine lv_eqi (y := nI (70 + (3 * (ntp k)))) (nI_add _ _) ?_
            refine lv_iload_n hx hb dX7_notes_150 rfl (lv_at hl 1 rfl) ?_
            refine r_iast hx hb hK hP hD hS 1 0 (70 + (3 * (ntp k))) (f := enc (uA B 0 (u2 (ntM (B 0) k) 12 8 (nI (nsz y k))))) (x := nI b) (wn := List.flatten [mdO m0 m1 m2 m3 th sv kp ln ca lt fi sd hs, arC cI m1 1170 (upd (enc (uA B 0 (u2 (ntM (B 0) k) 12 8 (nI (nsz y k))))) (70 + (3 * (ntp k))) (nI b)), arC cI m2 60 T, arC cI m3 8 (ht (B 0))]) rfl rfl (by omega) (by omega) rfl dX7_notes_151 (fun H locs hP hD hS => ?_)
            obtain ⟨hP, hD⟩ := PD_cg hP hD 1 (enc (uA B 0 (u2 (u2 (ntM (B 0) k) 12 8 (nI (nsz y k))) 7 (ntp k) (nI b)))) rfl (fun j _ => by exact congrFun (enc_un B (u2 (ntM (B 0) k) 12 8 (nI (nsz y k))) (w := 0) hnp (by decide) _) j) (wn := List.flatten [mdO m0 m1 m2 m3 th sv kp ln ca lt fi sd hs, arC cI m1 1170 (enc (uA B 0 (u2 (u2 (ntM (B 0) k) 12 8 (nI (nsz y k))) 7 (ntp k) (nI b)))), arC cI m2 60 T, arC cI m3 8 (ht (B 0))]) rfl
            refine lv_aload_n hx hb dX7_notes_152 rfl (lv_at hl 0 rfl) ?_
            refine va_get (D := D) (ci := 7) (v := .ref m1) (C := RX7) (T := TX7) (N := 12) hx hb hts hinX7 hown hK hP 0 rfl rfl 1 (by decide) (hts (.fieldLink RX7 7 "RibbonBalloonsModel" "s" "[I") (by decide +kernel)) (fun _ h9 => h9) rfl dX7_notes_153 ?_
            refine lv_bipush (v := 70) hx hb dX7_notes_156 (by decide) ?_
            refine lv_iconst (v := 3) hx hb dX7_notes_158 (by decide) ?_
            refine lv_iload_n hx hb dX7_notes_159 rfl (lv_at hl 3 rfl) ?_
            refine lv_imul hx hb dX7_notes_160 ?_
            refine lv_eqi (y := nI (3 * (ntp k))) (pk_mul _ _) ?_
            refine lv_iadd hx hb dX7_notes_161 ?_
            refine lv_eqi (y := nI (70 + (3 * (ntp k)))) (nI_add _ _) ?_
            refine lv_iconst (v := 1) hx hb dX7_notes_162 (by decide) ?_
            refine lv_iadd hx hb dX7_notes_163 ?_
            refine lv_eqi (y := nI ((70 + (3 * (ntp k))) + 1)) (nI_add _ _) ?_
            refine lv_aload_n hx hb dX7_notes_164 rfl (lv_at hl 0 rfl) ?_
            refine va_get (D := D) (ci := 7) (v := .ref m1) (C := RX7) (T := TX7) (N := 12) hx hb hts hinX7 hown hK hP 0 rfl rfl 1 (by decide) (hts (.fieldLink RX7 7 "RibbonBalloonsModel" "s" "[I") (by decide +kernel)) (fun _ h9 => h9) rfl dX7_notes_165 ?_
            refine lv_iconst (v := 0) hx hb dX7_notes_168 (by decide) ?_
            refine r_iald hx hb hK hP 1 0 0 (f := enc (uA B 0 (u2 (u2 (ntM (B 0) k) 12 8 (nI (nsz y k))) 7 (ntp k) (nI b)))) rfl rfl (by omega) (by omega) dX7_notes_169 ?_
            refine lv_eqi (y := B 0 12 0) (by rw [enc_at0 _ (by decide), uA_s]; exact ntM_h _ _ _ _ _) ?_
            refine r_iast hx hb hK hP hD hS 1 0 ((70 + (3 * (ntp k))) + 1) (f := enc (uA B 0 (u2 (u2 (ntM (B 0) k) 12 8 (nI (nsz y k))) 7 (ntp k) (nI b)))) (x := B 0 12 0) (wn := List.flatten [mdO m0 m1 m2 m3 th sv kp ln ca lt fi sd hs, arC cI m1 1170 (upd (enc (uA B 0 (u2 (u2 (ntM (B 0) k) 12 8 (nI (nsz y k))) 7 (ntp k) (nI b)))) ((70 + (3 * (ntp k))) + 1) (B 0 12 0)), arC cI m2 60 T, arC cI m3 8 (ht (B 0))]) rfl rfl (by omega) (by omega) rfl dX7_notes_170 (fun H locs hP hD hS => ?_)
            obtain ⟨hP, hD⟩ := PD_cg hP hD 1 (enc (uA B 0 (u2 (u2 (u2 (ntM (B 0) k) 12 8 (nI (nsz y k))) 7 (ntp k) (nI b)) 8 (ntp k) (B 0 12 0)))) rfl (fun j _ => by exact congrFun (enc_un B (u2 (u2 (ntM (B 0) k) 12 8 (nI (nsz y k))) 7 (ntp k) (nI b)) (w := 1) hnp (by decide) _) j) (wn := List.flatten [mdO m0 m1 m2 m3 th sv kp ln ca lt fi sd hs, arC cI m1 1170 (enc (uA B 0 (u2 (u2 (u2 (ntM (B 0) k) 12 8 (nI (nsz y k))) 7 (ntp k) (nI b)) 8 (ntp k) (B 0 12 0)))), arC cI m2 60 T, arC cI m3 8 (ht (B 0))]) rfl
            refine lv_aload_n hx hb dX7_notes_171 rfl (lv_at hl 0 rfl) ?_
            refine va_get (D := D) (ci := 7) (v := .ref m1) (C := RX7) (T := TX7) (N := 12) hx hb hts hinX7 hown hK hP 0 rfl rfl 1 (by decide) (hts (.fieldLink RX7 7 "RibbonBalloonsModel" "s" "[I") (by decide +kernel)) (fun _ h9 => h9) rfl dX7_notes_172 ?_
            refine lv_bipush (v := 70) hx hb dX7_notes_175 (by decide) ?_
            refine lv_iconst (v := 3) hx hb dX7_notes_177 (by decide) ?_
            refine lv_iload_n hx hb dX7_notes_178 rfl (lv_at hl 3 rfl) ?_
            refine lv_imul hx hb dX7_notes_179 ?_
            refine lv_eqi (y := nI (3 * (ntp k))) (pk_mul _ _) ?_
            refine lv_iadd hx hb dX7_notes_180 ?_
            refine lv_eqi (y := nI (70 + (3 * (ntp k)))) (nI_add _ _) ?_
            refine lv_iconst (v := 2) hx hb dX7_notes_181 (by decide) ?_
            refine lv_iadd hx hb dX7_notes_182 ?_
            refine lv_eqi (y := nI ((70 + (3 * (ntp k))) + 2)) (nI_add _ _) ?_
            refine lv_iload_n hx hb dX7_notes_183 rfl (lv_at hl 2 rfl) ?_
            refine r_iast hx hb hK hP hD hS 1 0 ((70 + (3 * (ntp k))) + 2) (f := enc (uA B 0 (u2 (u2 (u2 (ntM (B 0) k) 12 8 (nI (nsz y k))) 7 (ntp k) (nI b)) 8 (ntp k) (B 0 12 0)))) (x := tel (B 0) b) (wn := List.flatten [mdO m0 m1 m2 m3 th sv kp ln ca lt fi sd hs, arC cI m1 1170 (upd (enc (uA B 0 (u2 (u2 (u2 (ntM (B 0) k) 12 8 (nI (nsz y k))) 7 (ntp k) (nI b)) 8 (ntp k) (B 0 12 0)))) ((70 + (3 * (ntp k))) + 2) (tel (B 0) b)), arC cI m2 60 T, arC cI m3 8 (ht (B 0))]) rfl rfl (by omega) (by omega) rfl dX7_notes_184 (fun H locs hP hD hS => ?_)
            obtain ⟨hP, hD⟩ := PD_cg hP hD 1 (enc (uA B 0 (notS (B 0) y b))) rfl (fun j _ => by rw [← ntF (B 0) ekp]; exact congrFun (enc_un B (u2 (u2 (u2 (ntM (B 0) k) 12 8 (nI (nsz y k))) 7 (ntp k) (nI b)) 8 (ntp k) (B 0 12 0)) (w := 2) hnp (by decide) _) j) (wn := List.flatten [mdO m0 m1 m2 m3 th sv kp ln ca lt fi sd hs, arC cI m1 1170 (enc (uA B 0 (notS (B 0) y b))), arC cI m2 60 T, arC cI m3 8 (ht (B 0))]) rfl
            refine lv_iload_n hx hb dX7_notes_185 rfl (lv_at hl 2 rfl) ?_
            refine hend (ht (B 0)) _ _ _ _ _ trivial ?_ hP hD hS dX7_notes_186
            exact rfl
          · skip
            refine lv_aload_n hx hb dX7_notes_126 rfl (lv_at hl 0 rfl) ?_
            refine va_get (D := D) (ci := 7) (v := .ref m1) (C := RX7) (T := TX7) (N := 12) hx hb hts hinX7 hown hK hP 0 rfl rfl 1 (by decide) (hts (.fieldLink RX7 7 "RibbonBalloonsModel" "s" "[I") (by decide +kernel)) (fun _ h9 => h9) rfl dX7_notes_127 ?_
            refine lv_bipush (v := 8) hx hb dX7_notes_130 (by decide) ?_
            refine r_iald hx hb hK hP 1 0 8 (f := enc (uA B 0 (ntM (B 0) k))) rfl rfl (by omega) (by omega) dX7_notes_132 ?_
            refine lv_eqi (y := nI y) (by rw [enc_at0 _ (by decide), uA_s, ntM_12]; exact hy) ?_
            refine lv_goto (tgt := 139) hx hb dX7_notes_133 (by decide) ?_
            refine r_iast hx hb hK hP hD hS 1 0 8 (f := enc (uA B 0 (ntM (B 0) k))) (x := nI y) (wn := List.flatten [mdO m0 m1 m2 m3 th sv kp ln ca lt fi sd hs, arC cI m1 1170 (upd (enc (uA B 0 (ntM (B 0) k))) 8 (nI y)), arC cI m2 60 T, arC cI m3 8 (ht (B 0))]) rfl rfl (by omega) (by omega) rfl dX7_notes_139 (fun H locs hP hD hS => ?_)
            obtain ⟨hP, hD⟩ := PD_cg hP hD 1 (enc (uA B 0 (u2 (ntM (B 0) k) 12 8 (nI (nsz y k))))) rfl (fun j _ => by rw [enc_u0 _ _ (by decide)]; first | rw [nsz_1 hk hy20 (by omega)] | rw [nsz_2 hk hy20 (by omega)]) (wn := List.flatten [mdO m0 m1 m2 m3 th sv kp ln ca lt fi sd hs, arC cI m1 1170 (enc (uA B 0 (u2 (ntM (B 0) k) 12 8 (nI (nsz y k))))), arC cI m2 60 T, arC cI m3 8 (ht (B 0))]) rfl
            refine lv_aload_n hx hb dX7_notes_140 rfl (lv_at hl 0 rfl) ?_
            refine va_get (D := D) (ci := 7) (v := .ref m1) (C := RX7) (T := TX7) (N := 12) hx hb hts hinX7 hown hK hP 0 rfl rfl 1 (by decide) (hts (.fieldLink RX7 7 "RibbonBalloonsModel" "s" "[I") (by decide +kernel)) (fun _ h9 => h9) rfl dX7_notes_141 ?_
            refine lv_bipush (v := 70) hx hb dX7_notes_144 (by decide) ?_
            refine lv_iconst (v := 3) hx hb dX7_notes_146 (by decide) ?_
            refine lv_iload_n hx hb dX7_notes_147 rfl (lv_at hl 3 rfl) ?_
            refine lv_imul hx hb dX7_notes_148 ?_
            refine lv_eqi (y := nI (3 * (ntp k))) (pk_mul _ _) ?_
            refine lv_iadd hx hb dX7_notes_149 ?_
            refine lv_eqi (y := nI (70 + (3 * (ntp k)))) (nI_add _ _) ?_
            refine lv_iload_n hx hb dX7_notes_150 rfl (lv_at hl 1 rfl) ?_
            refine r_iast hx hb hK hP hD hS 1 0 (70 + (3 * (ntp k))) (f := enc (uA B 0 (u2 (ntM (B 0) k) 12 8 (nI (nsz y k))))) (x := nI b) (wn := List.flatten [mdO m0 m1 m2 m3 th sv kp ln ca lt fi sd hs, arC cI m1 1170 (upd (enc (uA B 0 (u2 (ntM (B 0) k) 12 8 (nI (nsz y k))))) (70 + (3 * (ntp k))) (nI b)), arC cI m2 60 T, arC cI m3 8 (ht (B 0))]) rfl rfl (by omega) (by omega) rfl dX7_notes_151 (fun H locs hP hD hS => ?_)
            obtain ⟨hP, hD⟩ := PD_cg hP hD 1 (enc (uA B 0 (u2 (u2 (ntM (B 0) k) 12 8 (nI (nsz y k))) 7 (ntp k) (nI b)))) rfl (fun j _ => by exact congrFun (enc_un B (u2 (ntM (B 0) k) 12 8 (nI (nsz y k))) (w := 0) hnp (by decide) _) j) (wn := List.flatten [mdO m0 m1 m2 m3 th sv kp ln ca lt fi sd hs, arC cI m1 1170 (enc (uA B 0 (u2 (u2 (ntM (B 0) k) 12 8 (nI (nsz y k))) 7 (ntp k) (nI b)))), arC cI m2 60 T, arC cI m3 8 (ht (B 0))]) rfl
            refine lv_aload_n hx hb dX7_notes_152 rfl (lv_at hl 0 rfl) ?_
            refine va_get (D := D) (ci := 7) (v := .ref m1) (C := RX7) (T := TX7) (N := 12) hx hb hts hinX7 hown hK hP 0 rfl rfl 1 (by decide) (hts (.fieldLink RX7 7 "RibbonBalloonsModel" "s" "[I") (by decide +kernel)) (fun _ h9 => h9) rfl dX7_notes_153 ?_
            refine lv_bipush (v := 70) hx hb dX7_notes_156 (by decide) ?_
            refine lv_iconst (v := 3) hx hb dX7_notes_158 (by decide) ?_
            refine lv_iload_n hx hb dX7_notes_159 rfl (lv_at hl 3 rfl) ?_
            refine lv_imul hx hb dX7_notes_160 ?_
            refine lv_eqi (y := nI (3 * (ntp k))) (pk_mul _ _) ?_
            refine lv_iadd hx hb dX7_notes_161 ?_
            refine lv_eqi (y := nI (70 + (3 * (ntp k)))) (nI_add _ _) ?_
            refine lv_iconst (v := 1) hx hb dX7_notes_162 (by decide) ?_
            refine lv_iadd hx hb dX7_notes_163 ?_
            refine lv_eqi (y := nI ((70 + (3 * (ntp k))) + 1)) (nI_add _ _) ?_
            refine lv_aload_n hx hb dX7_notes_164 rfl (lv_at hl 0 rfl) ?_
            refine va_get (D := D) (ci := 7) (v := .ref m1) (C := RX7) (T := TX7) (N := 12) hx hb hts hinX7 hown hK hP 0 rfl rfl 1 (by decide) (hts (.fieldLink RX7 7 "RibbonBalloonsModel" "s" "[I") (by decide +kernel)) (fun _ h9 => h9) rfl dX7_notes_165 ?_
            refine lv_iconst (v := 0) hx hb dX7_notes_168 (by decide) ?_
            refine r_iald hx hb hK hP 1 0 0 (f := enc (uA B 0 (u2 (u2 (ntM (B 0) k) 12 8 (nI (nsz y k))) 7 (ntp k) (nI b)))) rfl rfl (by omega) (by omega) dX7_notes_169 ?_
            refine lv_eqi (y := B 0 12 0) (by rw [enc_at0 _ (by decide), uA_s]; exact ntM_h _ _ _ _ _) ?_
            refine r_iast hx hb hK hP hD hS 1 0 ((70 + (3 * (ntp k))) + 1) (f := enc (uA B 0 (u2 (u2 (ntM (B 0) k) 12 8 (nI (nsz y k))) 7 (ntp k) (nI b)))) (x := B 0 12 0) (wn := List.flatten [mdO m0 m1 m2 m3 th sv kp ln ca lt fi sd hs, arC cI m1 1170 (upd (enc (uA B 0 (u2 (u2 (ntM (B 0) k) 12 8 (nI (nsz y k))) 7 (ntp k) (nI b)))) ((70 + (3 * (ntp k))) + 1) (B 0 12 0)), arC cI m2 60 T, arC cI m3 8 (ht (B 0))]) rfl rfl (by omega) (by omega) rfl dX7_notes_170 (fun H locs hP hD hS => ?_)
            obtain ⟨hP, hD⟩ := PD_cg hP hD 1 (enc (uA B 0 (u2 (u2 (u2 (ntM (B 0) k) 12 8 (nI (nsz y k))) 7 (ntp k) (nI b)) 8 (ntp k) (B 0 12 0)))) rfl (fun j _ => by exact congrFun (enc_un B (u2 (u2 (ntM (B 0) k) 12 8 (nI (nsz y k))) 7 (ntp k) (nI b)) (w := 1) hnp (by decide) _) j) (wn := List.flatten [mdO m0 m1 m2 m3 th sv kp ln ca lt fi sd hs, arC cI m1 1170 (enc (uA B 0 (u2 (u2 (u2 (ntM (B 0) k) 12 8 (nI (nsz y k))) 7 (ntp k) (nI b)) 8 (ntp k) (B 0 12 0)))), arC cI m2 60 T, arC cI m3 8 (ht (B 0))]) rfl
            refine lv_aload_n hx hb dX7_notes_171 rfl (lv_at hl 0 rfl) ?_
            refine va_get (D := D) (ci := 7) (v := .ref m1) (C := RX7) (T := TX7) (N := 12) hx hb hts hinX7 hown hK hP 0 rfl rfl 1 (by decide) (hts (.fieldLink RX7 7 "RibbonBalloonsModel" "s" "[I") (by decide +kernel)) (fun _ h9 => h9) rfl dX7_notes_172 ?_
            refine lv_bipush (v := 70) hx hb dX7_notes_175 (by decide) ?_
            refine lv_iconst (v := 3) hx hb dX7_notes_177 (by decide) ?_
            refine lv_iload_n hx hb dX7_notes_178 rfl (lv_at hl 3 rfl) ?_
            refine lv_imul hx hb dX7_notes_179 ?_
            refine lv_eqi (y := nI (3 * (ntp k))) (pk_mul _ _) ?_
            refine lv_iadd hx hb dX7_notes_180 ?_
            refine lv_eqi (y := nI (70 + (3 * (ntp k)))) (nI_add _ _) ?_
            refine lv_iconst (v := 2) hx hb dX7_notes_181 (by decide) ?_
            refine lv_iadd hx hb dX7_notes_182 ?_
            refine lv_eqi (y := nI ((70 + (3 * (ntp k))) + 2)) (nI_add _ _) ?_
            refine lv_iload_n hx hb dX7_notes_183 rfl (lv_at hl 2 rfl) ?_
            refine r_iast hx hb hK hP hD hS 1 0 ((70 + (3 * (ntp k))) + 2) (f := enc (uA B 0 (u2 (u2 (u2 (ntM (B 0) k) 12 8 (nI (nsz y k))) 7 (ntp k) (nI b)) 8 (ntp k) (B 0 12 0)))) (x := tel (B 0) b) (wn := List.flatten [mdO m0 m1 m2 m3 th sv kp ln ca lt fi sd hs, arC cI m1 1170 (upd (enc (uA B 0 (u2 (u2 (u2 (ntM (B 0) k) 12 8 (nI (nsz y k))) 7 (ntp k) (nI b)) 8 (ntp k) (B 0 12 0)))) ((70 + (3 * (ntp k))) + 2) (tel (B 0) b)), arC cI m2 60 T, arC cI m3 8 (ht (B 0))]) rfl rfl (by omega) (by omega) rfl dX7_notes_184 (fun H locs hP hD hS => ?_)
            obtain ⟨hP, hD⟩ := PD_cg hP hD 1 (enc (uA B 0 (notS (B 0) y b))) rfl (fun j _ => by rw [← ntF (B 0) ekp]; exact congrFun (enc_un B (u2 (u2 (u2 (ntM (B 0) k) 12 8 (nI (nsz y k))) 7 (ntp k) (nI b)) 8 (ntp k) (B 0 12 0)) (w := 2) hnp (by decide) _) j) (wn := List.flatten [mdO m0 m1 m2 m3 th sv kp ln ca lt fi sd hs, arC cI m1 1170 (enc (uA B 0 (notS (B 0) y b))), arC cI m2 60 T, arC cI m3 8 (ht (B 0))]) rfl
            refine lv_iload_n hx hb dX7_notes_185 rfl (lv_at hl 2 rfl) ?_
            refine hend (ht (B 0)) _ _ _ _ _ trivial ?_ hP hD hS dX7_notes_186
            exact rfl
        · skip
          refine lv_iconst (v := 0) hx hb dX7_notes_68 (by decide) ?_
          refine lv_istore (lv' := [(4, .int 0), (0, .ref m0), (1, .int (nI b)), (2, .int (tel (B 0) b)), (3, .int (nI k))]) hx hb dX7_notes_69 hl (by decide) rfl (fun ls hl => ?_)
          have lp_71 : ∀ (nn : Nat) (i : Nat), True → (i ≤ 57) → 57 - i < nn → ∀ (H : Heap) (locs : List Loc) (ls : Array Slot), va_P D vwCl (List.flatten [mdO m0 m1 m2 m3 th sv kp ln ca lt fi sd hs, arC cI m1 1170 (shR B i), arC cI m2 60 T, arC cI m3 8 (ht (B 0))]) H → va_D A (List.flatten [mdO m0 m1 m2 m3 th sv kp ln ca lt fi sd hs, arC cI m1 1170 (shR B i), arC cI m2 60 T, arC cI m3 8 (ht (B 0))]) → va_S A s.heap H locs → lv_has ls 5 [(0, .ref m0), (1, .int (nI b)), (2, .int (tel (B 0) b)), (3, .int (nI k)), (4, .int (nI i))] → W p l e ({ frames := 6, cells := 0, slots := 0, locals := 132 } : Room) s m ([.ref m0, .int (nI b)] : List Value).toArray below meth c H locs 0 0 Q (F0 m 71 ls []) := by
            intro nn
            induction nn with
            | zero => intro i _ hi hmz; exact absurd hmz (Nat.not_lt_zero _)
            | succ nn ih =>
              intro i _ hi hms H locs ls hP hD hS hl
              refine lv_iload hx hb dX7_notes_71 (lv_at hl 4 rfl) ?_
              refine lv_bipush (v := 57) hx hb dX7_notes_73 (by decide) ?_
              refine n_ge (i := i) (j := 57) (tgt := 106) hx hb (by omega) (by omega) dX7_notes_75 (by decide) (fun c75 => ?_) (fun c75 => ?_)
              · skip
                refine lv_iinc (v := nI (k - 1)) (lv' := [(3, .int (nI (k - 1))), (0, .ref m0), (1, .int (nI b)), (2, .int (tel (B 0) b)), (4, .int (nI i))]) hx hb dX7_notes_106 hl (k := 3) rfl (n_dec (by omega)) (by decide) rfl (fun ls hl => ?_)
                have hl : lv_has ls 5 [(3, .int (nI (ntp k))), (0, .ref m0), (1, .int (nI b)), (2, .int (tel (B 0) b)), (4, .int (nI i))] := lv_re hl 0 (x := nI (k - 1)) (y := nI (ntp k)) rfl (by first | exact ntp_a c65 | exact ntp_b c65) rfl
                have hnp : ntp k < 20 := ntp_lt hk hy20
                obtain ⟨hP, hD⟩ := PD_cg hP hD 1 (enc (uA B 0 (ntM (B 0) k))) rfl (fun j _ => by first | exact ntM_a c65 j | exact ntM_b c65 (by omega) (by omega) j) (wn := List.flatten [mdO m0 m1 m2 m3 th sv kp ln ca lt fi sd hs, arC cI m1 1170 (enc (uA B 0 (ntM (B 0) k))), arC cI m2 60 T, arC cI m3 8 (ht (B 0))]) rfl
                refine lv_aload_n hx hb dX7_notes_109 rfl (lv_at hl 1 rfl) ?_
                refine va_get (D := D) (ci := 7) (v := .ref m1) (C := RX7) (T := TX7) (N := 12) hx hb hts hinX7 hown hK hP 0 rfl rfl 1 (by decide) (hts (.fieldLink RX7 7 "RibbonBalloonsModel" "s" "[I") (by decide +kernel)) (fun _ h9 => h9) rfl dX7_notes_110 ?_
                refine lv_bipush (v := 8) hx hb dX7_notes_113 (by decide) ?_
                refine lv_iload_n hx hb dX7_notes_115 rfl (lv_at hl 0 rfl) ?_
                refine lv_aload_n hx hb dX7_notes_116 rfl (lv_at hl 1 rfl) ?_
                refine va_get (D := D) (ci := 7) (v := .ref m1) (C := RX7) (T := TX7) (N := 12) hx hb hts hinX7 hown hK hP 0 rfl rfl 1 (by decide) (hts (.fieldLink RX7 7 "RibbonBalloonsModel" "s" "[I") (by decide +kernel)) (fun _ h9 => h9) rfl dX7_notes_117 ?_
                refine lv_bipush (v := 8) hx hb dX7_notes_120 (by decide) ?_
                refine r_iald hx hb hK hP 1 0 8 (f := enc (uA B 0 (ntM (B 0) k))) rfl rfl (by omega) (by omega) dX7_notes_122 ?_
                refine lv_eqi (y := nI y) (by rw [enc_at0 _ (by decide), uA_s, ntM_12]; exact hy) ?_
                refine n_ge (i := ntp k) (j := y) (tgt := 136) hx hb (by omega) (by omega) dX7_notes_123 (by decide) (fun c123 => ?_) (fun c123 => ?_)
                · skip
                  refine lv_iload_n hx hb dX7_notes_136 rfl (lv_at hl 0 rfl) ?_
                  refine lv_iconst (v := 1) hx hb dX7_notes_137 (by decide) ?_
                  refine lv_iadd hx hb dX7_notes_138 ?_
                  refine lv_eqi (y := nI ((ntp k) + 1)) (nI_add _ _) ?_
                  refine r_iast hx hb hK hP hD hS 1 0 8 (f := enc (uA B 0 (ntM (B 0) k))) (x := nI ((ntp k) + 1)) (wn := List.flatten [mdO m0 m1 m2 m3 th sv kp ln ca lt fi sd hs, arC cI m1 1170 (upd (enc (uA B 0 (ntM (B 0) k))) 8 (nI ((ntp k) + 1))), arC cI m2 60 T, arC cI m3 8 (ht (B 0))]) rfl rfl (by omega) (by omega) rfl dX7_notes_139 (fun H locs hP hD hS => ?_)
                  obtain ⟨hP, hD⟩ := PD_cg hP hD 1 (enc (uA B 0 (u2 (ntM (B 0) k) 12 8 (nI (nsz y k))))) rfl (fun j _ => by rw [enc_u0 _ _ (by decide)]; first | rw [nsz_1 hk hy20 (by omega)] | rw [nsz_2 hk hy20 (by omega)]) (wn := List.flatten [mdO m0 m1 m2 m3 th sv kp ln ca lt fi sd hs, arC cI m1 1170 (enc (uA B 0 (u2 (ntM (B 0) k) 12 8 (nI (nsz y k))))), arC cI m2 60 T, arC cI m3 8 (ht (B 0))]) rfl
                  refine lv_aload_n hx hb dX7_notes_140 rfl (lv_at hl 1 rfl) ?_
                  refine va_get (D := D) (ci := 7) (v := .ref m1) (C := RX7) (T := TX7) (N := 12) hx hb hts hinX7 hown hK hP 0 rfl rfl 1 (by decide) (hts (.fieldLink RX7 7 "RibbonBalloonsModel" "s" "[I") (by decide +kernel)) (fun _ h9 => h9) rfl dX7_notes_141 ?_
                  refine lv_bipush (v := 70) hx hb dX7_notes_144 (by decide) ?_
                  refine lv_iconst (v := 3) hx hb dX7_notes_146 (by decide) ?_
                  refine lv_iload_n hx hb dX7_notes_147 rfl (lv_at hl 0 rfl) ?_
                  refine lv_imul hx hb dX7_notes_148 ?_
                  refine lv_eqi (y := nI (3 * (ntp k))) (pk_mul _ _) ?_
                  refine lv_iadd hx hb dX7_notes_149 ?_
                  refine lv_eqi (y := nI (70 + (3 * (ntp k)))) (nI_add _ _) ?_
                  refine lv_iload_n hx hb dX7_notes_150 rfl (lv_at hl 2 rfl) ?_
                  refine r_iast hx hb hK hP hD hS 1 0 (70 + (3 * (ntp k))) (f := enc (uA B 0 (u2 (ntM (B 0) k) 12 8 (nI (nsz y k))))) (x := nI b) (wn := List.flatten [mdO m0 m1 m2 m3 th sv kp ln ca lt fi sd hs, arC cI m1 1170 (upd (enc (uA B 0 (u2 (ntM (B 0) k) 12 8 (nI (nsz y k))))) (70 + (3 * (ntp k))) (nI b)), arC cI m2 60 T, arC cI m3 8 (ht (B 0))]) rfl rfl (by omega) (by omega) rfl dX7_notes_151 (fun H locs hP hD hS => ?_)
                  obtain ⟨hP, hD⟩ := PD_cg hP hD 1 (enc (uA B 0 (u2 (u2 (ntM (B 0) k) 12 8 (nI (nsz y k))) 7 (ntp k) (nI b)))) rfl (fun j _ => by exact congrFun (enc_un B (u2 (ntM (B 0) k) 12 8 (nI (nsz y k))) (w := 0) hnp (by decide) _) j) (wn := List.flatten [mdO m0 m1 m2 m3 th sv kp ln ca lt fi sd hs, arC cI m1 1170 (enc (uA B 0 (u2 (u2 (ntM (B 0) k) 12 8 (nI (nsz y k))) 7 (ntp k) (nI b)))), arC cI m2 60 T, arC cI m3 8 (ht (B 0))]) rfl
                  refine lv_aload_n hx hb dX7_notes_152 rfl (lv_at hl 1 rfl) ?_
                  refine va_get (D := D) (ci := 7) (v := .ref m1) (C := RX7) (T := TX7) (N := 12) hx hb hts hinX7 hown hK hP 0 rfl rfl 1 (by decide) (hts (.fieldLink RX7 7 "RibbonBalloonsModel" "s" "[I") (by decide +kernel)) (fun _ h9 => h9) rfl dX7_notes_153 ?_
                  refine lv_bipush (v := 70) hx hb dX7_notes_156 (by decide) ?_
                  refine lv_iconst (v := 3) hx hb dX7_notes_158 (by decide) ?_
                  refine lv_iload_n hx hb dX7_notes_159 rfl (lv_at hl 0 rfl) ?_
                  refine lv_imul hx hb dX7_notes_160 ?_
                  refine lv_eqi (y := nI (3 * (ntp k))) (pk_mul _ _) ?_
                  refine lv_iadd hx hb dX7_notes_161 ?_
                  refine lv_eqi (y := nI (70 + (3 * (ntp k)))) (nI_add _ _) ?_
                  refine lv_iconst (v := 1) hx hb dX7_notes_162 (by decide) ?_
                  refine lv_iadd hx hb dX7_notes_163 ?_
                  refine lv_eqi (y := nI ((70 + (3 * (ntp k))) + 1)) (nI_add _ _) ?_
                  refine lv_aload_n hx hb dX7_notes_164 rfl (lv_at hl 1 rfl) ?_
                  refine va_get (D := D) (ci := 7) (v := .ref m1) (C := RX7) (T := TX7) (N := 12) hx hb hts hinX7 hown hK hP 0 rfl rfl 1 (by decide) (hts (.fieldLink RX7 7 "RibbonBalloonsModel" "s" "[I") (by decide +kernel)) (fun _ h9 => h9) rfl dX7_notes_165 ?_
                  refine lv_iconst (v := 0) hx hb dX7_notes_168 (by decide) ?_
                  refine r_iald hx hb hK hP 1 0 0 (f := enc (uA B 0 (u2 (u2 (ntM (B 0) k) 12 8 (nI (nsz y k))) 7 (ntp k) (nI b)))) rfl rfl (by omega) (by omega) dX7_notes_169 ?_
                  refine lv_eqi (y := B 0 12 0) (by rw [enc_at0 _ (by decide), uA_s]; exact ntM_h _ _ _ _ _) ?_
                  refine r_iast hx hb hK hP hD hS 1 0 ((70 + (3 * (ntp k))) + 1) (f := enc (uA B 0 (u2 (u2 (ntM (B 0) k) 12 8 (nI (nsz y k))) 7 (ntp k) (nI b)))) (x := B 0 12 0) (wn := List.flatten [mdO m0 m1 m2 m3 th sv kp ln ca lt fi sd hs, arC cI m1 1170 (upd (enc (uA B 0 (u2 (u2 (ntM (B 0) k) 12 8 (nI (nsz y k))) 7 (ntp k) (nI b)))) ((70 + (3 * (ntp k))) + 1) (B 0 12 0)), arC cI m2 60 T, arC cI m3 8 (ht (B 0))]) rfl rfl (by omega) (by omega) rfl dX7_notes_170 (fun H locs hP hD hS => ?_)
                  obtain ⟨hP, hD⟩ := PD_cg hP hD 1 (enc (uA B 0 (u2 (u2 (u2 (ntM (B 0) k) 12 8 (nI (nsz y k))) 7 (ntp k) (nI b)) 8 (ntp k) (B 0 12 0)))) rfl (fun j _ => by exact congrFun (enc_un B (u2 (u2 (ntM (B 0) k) 12 8 (nI (nsz y k))) 7 (ntp k) (nI b)) (w := 1) hnp (by decide) _) j) (wn := List.flatten [mdO m0 m1 m2 m3 th sv kp ln ca lt fi sd hs, arC cI m1 1170 (enc (uA B 0 (u2 (u2 (u2 (ntM (B 0) k) 12 8 (nI (nsz y k))) 7 (ntp k) (nI b)) 8 (ntp k) (B 0 12 0)))), arC cI m2 60 T, arC cI m3 8 (ht (B 0))]) rfl
                  refine lv_aload_n hx hb dX7_notes_171 rfl (lv_at hl 1 rfl) ?_
                  refine va_get (D := D) (ci := 7) (v := .ref m1) (C := RX7) (T := TX7) (N := 12) hx hb hts hinX7 hown hK hP 0 rfl rfl 1 (by decide) (hts (.fieldLink RX7 7 "RibbonBalloonsModel" "s" "[I") (by decide +kernel)) (fun _ h9 => h9) rfl dX7_notes_172 ?_
                  refine lv_bipush (v := 70) hx hb dX7_notes_175 (by decide) ?_
                  refine lv_iconst (v := 3) hx hb dX7_notes_177 (by decide) ?_
                  refine lv_iload_n hx hb dX7_notes_178 rfl (lv_at hl 0 rfl) ?_
                  refine lv_imul hx hb dX7_notes_179 ?_
                  refine lv_eqi (y := nI (3 * (ntp k))) (pk_mul _ _) ?_
                  refine lv_iadd hx hb dX7_notes_180 ?_
                  refine lv_eqi (y := nI (70 + (3 * (ntp k)))) (nI_add _ _) ?_
                  refine lv_iconst (v := 2) hx hb dX7_notes_181 (by decide) ?_
                  refine lv_iadd hx hb dX7_notes_182 ?_
                  refine lv_eqi (y := nI ((70 + (3 * (ntp k))) + 2)) (nI_add _ _) ?_
                  refine lv_iload_n hx hb dX7_notes_183 rfl (lv_at hl 3 rfl) ?_
                  refine r_iast hx hb hK hP hD hS 1 0 ((70 + (3 * (ntp k))) + 2) (f := enc (uA B 0 (u2 (u2 (u2 (ntM (B 0) k) 12 8 (nI (nsz y k))) 7 (ntp k) (nI b)) 8 (ntp k) (B 0 12 0)))) (x := tel (B 0) b) (wn := List.flatten [mdO m0 m1 m2 m3 th sv kp ln ca lt fi sd hs, arC cI m1 1170 (upd (enc (uA B 0 (u2 (u2 (u2 (ntM (B 0) k) 12 8 (nI (nsz y k))) 7 (ntp k) (nI b)) 8 (ntp k) (B 0 12 0)))) ((70 + (3 * (ntp k))) + 2) (tel (B 0) b)), arC cI m2 60 T, arC cI m3 8 (ht (B 0))]) rfl rfl (by omega) (by omega) rfl dX7_notes_184 (fun H locs hP hD hS => ?_)
                  obtain ⟨hP, hD⟩ := PD_cg hP hD 1 (enc (uA B 0 (notS (B 0) y b))) rfl (fun j _ => by rw [← ntF (B 0) ekp]; exact congrFun (enc_un B (u2 (u2 (u2 (ntM (B 0) k) 12 8 (nI (nsz y k))) 7 (ntp k) (nI b)) 8 (ntp k) (B 0 12 0)) (w := 2) hnp (by decide) _) j) (wn := List.flatten [mdO m0 m1 m2 m3 th sv kp ln ca lt fi sd hs, arC cI m1 1170 (enc (uA B 0 (notS (B 0) y b))), arC cI m2 60 T, arC cI m3 8 (ht (B 0))]) rfl
                  refine lv_iload_n hx hb dX7_notes_185 rfl (lv_at hl 3 rfl) ?_
                  refine hend (ht (B 0)) _ _ _ _ _ trivial ?_ hP hD hS dX7_notes_186
                  exact rfl
                · skip
                  refine lv_aload_n hx hb dX7_notes_126 rfl (lv_at hl 1 rfl) ?_
                  refine va_get (D := D) (ci := 7) (v := .ref m1) (C := RX7) (T := TX7) (N := 12) hx hb hts hinX7 hown hK hP 0 rfl rfl 1 (by decide) (hts (.fieldLink RX7 7 "RibbonBalloonsModel" "s" "[I") (by decide +kernel)) (fun _ h9 => h9) rfl dX7_notes_127 ?_
                  refine lv_bipush (v := 8) hx hb dX7_notes_130 (by decide) ?_
                  refine r_iald hx hb hK hP 1 0 8 (f := enc (uA B 0 (ntM (B 0) k))) rfl rfl (by omega) (by omega) dX7_notes_132 ?_
                  refine lv_eqi (y := nI y) (by rw [enc_at0 _ (by decide), uA_s, ntM_12]; exact hy) ?_
                  refine lv_goto (tgt := 139) hx hb dX7_notes_133 (by decide) ?_
                  refine r_iast hx hb hK hP hD hS 1 0 8 (f := enc (uA B 0 (ntM (B 0) k))) (x := nI y) (wn := List.flatten [mdO m0 m1 m2 m3 th sv kp ln ca lt fi sd hs, arC cI m1 1170 (upd (enc (uA B 0 (ntM (B 0) k))) 8 (nI y)), arC cI m2 60 T, arC cI m3 8 (ht (B 0))]) rfl rfl (by omega) (by omega) rfl dX7_notes_139 (fun H locs hP hD hS => ?_)
                  obtain ⟨hP, hD⟩ := PD_cg hP hD 1 (enc (uA B 0 (u2 (ntM (B 0) k) 12 8 (nI (nsz y k))))) rfl (fun j _ => by rw [enc_u0 _ _ (by decide)]; first | rw [nsz_1 hk hy20 (by omega)] | rw [nsz_2 hk hy20 (by omega)]) (wn := List.flatten [mdO m0 m1 m2 m3 th sv kp ln ca lt fi sd hs, arC cI m1 1170 (enc (uA B 0 (u2 (ntM (B 0) k) 12 8 (nI (nsz y k))))), arC cI m2 60 T, arC cI m3 8 (ht (B 0))]) rfl
                  refine lv_aload_n hx hb dX7_notes_140 rfl (lv_at hl 1 rfl) ?_
                  refine va_get (D := D) (ci := 7) (v := .ref m1) (C := RX7) (T := TX7) (N := 12) hx hb hts hinX7 hown hK hP 0 rfl rfl 1 (by decide) (hts (.fieldLink RX7 7 "RibbonBalloonsModel" "s" "[I") (by decide +kernel)) (fun _ h9 => h9) rfl dX7_notes_141 ?_
                  refine lv_bipush (v := 70) hx hb dX7_notes_144 (by decide) ?_
                  refine lv_iconst (v := 3) hx hb dX7_notes_146 (by decide) ?_
                  refine lv_iload_n hx hb dX7_notes_147 rfl (lv_at hl 0 rfl) ?_
                  refine lv_imul hx hb dX7_notes_148 ?_
                  refine lv_eqi (y := nI (3 * (ntp k))) (pk_mul _ _) ?_
                  refine lv_iadd hx hb dX7_notes_149 ?_
                  refine lv_eqi (y := nI (70 + (3 * (ntp k)))) (nI_add _ _) ?_
                  refine lv_iload_n hx hb dX7_notes_150 rfl (lv_at hl 2 rfl) ?_
                  refine r_iast hx hb hK hP hD hS 1 0 (70 + (3 * (ntp k))) (f := enc (uA B 0 (u2 (ntM (B 0) k) 12 8 (nI (nsz y k))))) (x := nI b) (wn := List.flatten [mdO m0 m1 m2 m3 th sv kp ln ca lt fi sd hs, arC cI m1 1170 (upd (enc (uA B 0 (u2 (ntM (B 0) k) 12 8 (nI (nsz y k))))) (70 + (3 * (ntp k))) (nI b)), arC cI m2 60 T, arC cI m3 8 (ht (B 0))]) rfl rfl (by omega) (by omega) rfl dX7_notes_151 (fun H locs hP hD hS => ?_)
                  obtain ⟨hP, hD⟩ := PD_cg hP hD 1 (enc (uA B 0 (u2 (u2 (ntM (B 0) k) 12 8 (nI (nsz y k))) 7 (ntp k) (nI b)))) rfl (fun j _ => by exact congrFun (enc_un B (u2 (ntM (B 0) k) 12 8 (nI (nsz y k))) (w := 0) hnp (by decide) _) j) (wn := List.flatten [mdO m0 m1 m2 m3 th sv kp ln ca lt fi sd hs, arC cI m1 1170 (enc (uA B 0 (u2 (u2 (ntM (B 0) k) 12 8 (nI (nsz y k))) 7 (ntp k) (nI b)))), arC cI m2 60 T, arC cI m3 8 (ht (B 0))]) rfl
                  refine lv_aload_n hx hb dX7_notes_152 rfl (lv_at hl 1 rfl) ?_
                  refine va_get (D := D) (ci := 7) (v := .ref m1) (C := RX7) (T := TX7) (N := 12) hx hb hts hinX7 hown hK hP 0 rfl rfl 1 (by decide) (hts (.fieldLink RX7 7 "RibbonBalloonsModel" "s" "[I") (by decide +kernel)) (fun _ h9 => h9) rfl dX7_notes_153 ?_
                  refine lv_bipush (v := 70) hx hb dX7_notes_156 (by decide) ?_
                  refine lv_iconst (v := 3) hx hb dX7_notes_158 (by decide) ?_
                  refine lv_iload_n hx hb dX7_notes_159 rfl (lv_at hl 0 rfl) ?_
                  refine lv_imul hx hb dX7_notes_160 ?_
                  refine lv_eqi (y := nI (3 * (ntp k))) (pk_mul _ _) ?_
                  refine lv_iadd hx hb dX7_notes_161 ?_
                  refine lv_eqi (y := nI (70 + (3 * (ntp k)))) (nI_add _ _) ?_
                  refine lv_iconst (v := 1) hx hb dX7_notes_162 (by decide) ?_
                  refine lv_iadd hx hb dX7_notes_163 ?_
                  refine lv_eqi (y := nI ((70 + (3 * (ntp k))) + 1)) (nI_add _ _) ?_
                  refine lv_aload_n hx hb dX7_notes_164 rfl (lv_at hl 1 rfl) ?_
                  refine va_get (D := D) (ci := 7) (v := .ref m1) (C := RX7) (T := TX7) (N := 12) hx hb hts hinX7 hown hK hP 0 rfl rfl 1 (by decide) (hts (.fieldLink RX7 7 "RibbonBalloonsModel" "s" "[I") (by decide +kernel)) (fun _ h9 => h9) rfl dX7_notes_165 ?_
                  refine lv_iconst (v := 0) hx hb dX7_notes_168 (by decide) ?_
                  refine r_iald hx hb hK hP 1 0 0 (f := enc (uA B 0 (u2 (u2 (ntM (B 0) k) 12 8 (nI (nsz y k))) 7 (ntp k) (nI b)))) rfl rfl (by omega) (by omega) dX7_notes_169 ?_
                  refine lv_eqi (y := B 0 12 0) (by rw [enc_at0 _ (by decide), uA_s]; exact ntM_h _ _ _ _ _) ?_
                  refine r_iast hx hb hK hP hD hS 1 0 ((70 + (3 * (ntp k))) + 1) (f := enc (uA B 0 (u2 (u2 (ntM (B 0) k) 12 8 (nI (nsz y k))) 7 (ntp k) (nI b)))) (x := B 0 12 0) (wn := List.flatten [mdO m0 m1 m2 m3 th sv kp ln ca lt fi sd hs, arC cI m1 1170 (upd (enc (uA B 0 (u2 (u2 (ntM (B 0) k) 12 8 (nI (nsz y k))) 7 (ntp k) (nI b)))) ((70 + (3 * (ntp k))) + 1) (B 0 12 0)), arC cI m2 60 T, arC cI m3 8 (ht (B 0))]) rfl rfl (by omega) (by omega) rfl dX7_notes_170 (fun H locs hP hD hS => ?_)
                  obtain ⟨hP, hD⟩ := PD_cg hP hD 1 (enc (uA B 0 (u2 (u2 (u2 (ntM (B 0) k) 12 8 (nI (nsz y k))) 7 (ntp k) (nI b)) 8 (ntp k) (B 0 12 0)))) rfl (fun j _ => by exact congrFun (enc_un B (u2 (u2 (ntM (B 0) k) 12 8 (nI (nsz y k))) 7 (ntp k) (nI b)) (w := 1) hnp (by decide) _) j) (wn := List.flatten [mdO m0 m1 m2 m3 th sv kp ln ca lt fi sd hs, arC cI m1 1170 (enc (uA B 0 (u2 (u2 (u2 (ntM (B 0) k) 12 8 (nI (nsz y k))) 7 (ntp k) (nI b)) 8 (ntp k) (B 0 12 0)))), arC cI m2 60 T, arC cI m3 8 (ht (B 0))]) rfl
                  refine lv_aload_n hx hb dX7_notes_171 rfl (lv_at hl 1 rfl) ?_
                  refine va_get (D := D) (ci := 7) (v := .ref m1) (C := RX7) (T := TX7) (N := 12) hx hb hts hinX7 hown hK hP 0 rfl rfl 1 (by decide) (hts (.fieldLink RX7 7 "RibbonBalloonsModel" "s" "[I") (by decide +kernel)) (fun _ h9 => h9) rfl dX7_notes_172 ?_
                  refine lv_bipush (v := 70) hx hb dX7_notes_175 (by decide) ?_
                  refine lv_iconst (v := 3) hx hb dX7_notes_177 (by decide) ?_
                  refine lv_iload_n hx hb dX7_notes_178 rfl (lv_at hl 0 rfl) ?_
                  refine lv_imul hx hb dX7_notes_179 ?_
                  refine lv_eqi (y := nI (3 * (ntp k))) (pk_mul _ _) ?_
                  refine lv_iadd hx hb dX7_notes_180 ?_
                  refine lv_eqi (y := nI (70 + (3 * (ntp k)))) (nI_add _ _) ?_
                  refine lv_iconst (v := 2) hx hb dX7_notes_181 (by decide) ?_
                  refine lv_iadd hx hb dX7_notes_182 ?_
                  refine lv_eqi (y := nI ((70 + (3 * (ntp k))) + 2)) (nI_add _ _) ?_
                  refine lv_iload_n hx hb dX7_notes_183 rfl (lv_at hl 3 rfl) ?_
                  refine r_iast hx hb hK hP hD hS 1 0 ((70 + (3 * (ntp k))) + 2) (f := enc (uA B 0 (u2 (u2 (u2 (ntM (B 0) k) 12 8 (nI (nsz y k))) 7 (ntp k) (nI b)) 8 (ntp k) (B 0 12 0)))) (x := tel (B 0) b) (wn := List.flatten [mdO m0 m1 m2 m3 th sv kp ln ca lt fi sd hs, arC cI m1 1170 (upd (enc (uA B 0 (u2 (u2 (u2 (ntM (B 0) k) 12 8 (nI (nsz y k))) 7 (ntp k) (nI b)) 8 (ntp k) (B 0 12 0)))) ((70 + (3 * (ntp k))) + 2) (tel (B 0) b)), arC cI m2 60 T, arC cI m3 8 (ht (B 0))]) rfl rfl (by omega) (by omega) rfl dX7_notes_184 (fun H locs hP hD hS => ?_)
                  obtain ⟨hP, hD⟩ := PD_cg hP hD 1 (enc (uA B 0 (notS (B 0) y b))) rfl (fun j _ => by rw [← ntF (B 0) ekp]; exact congrFun (enc_un B (u2 (u2 (u2 (ntM (B 0) k) 12 8 (nI (nsz y k))) 7 (ntp k) (nI b)) 8 (ntp k) (B 0 12 0)) (w := 2) hnp (by decide) _) j) (wn := List.flatten [mdO m0 m1 m2 m3 th sv kp ln ca lt fi sd hs, arC cI m1 1170 (enc (uA B 0 (notS (B 0) y b))), arC cI m2 60 T, arC cI m3 8 (ht (B 0))]) rfl
                  refine lv_iload_n hx hb dX7_notes_185 rfl (lv_at hl 3 rfl) ?_
                  refine hend (ht (B 0)) _ _ _ _ _ trivial ?_ hP hD hS dX7_notes_186
                  exact rfl
              · skip
                refine lv_aload_n hx hb dX7_notes_78 rfl (lv_at hl 0 rfl) ?_
                refine va_get (D := D) (ci := 7) (v := .ref m1) (C := RX7) (T := TX7) (N := 12) hx hb hts hinX7 hown hK hP 0 rfl rfl 1 (by decide) (hts (.fieldLink RX7 7 "RibbonBalloonsModel" "s" "[I") (by decide +kernel)) (fun _ h9 => h9) rfl dX7_notes_79 ?_
                refine lv_bipush (v := 70) hx hb dX7_notes_82 (by decide) ?_
                refine lv_iload hx hb dX7_notes_84 (lv_at hl 4 rfl) ?_
                refine lv_iadd hx hb dX7_notes_86 ?_
                refine lv_eqi (y := nI (70 + i)) (nI_add _ _) ?_
                refine lv_aload_n hx hb dX7_notes_87 rfl (lv_at hl 0 rfl) ?_
                refine va_get (D := D) (ci := 7) (v := .ref m1) (C := RX7) (T := TX7) (N := 12) hx hb hts hinX7 hown hK hP 0 rfl rfl 1 (by decide) (hts (.fieldLink RX7 7 "RibbonBalloonsModel" "s" "[I") (by decide +kernel)) (fun _ h9 => h9) rfl dX7_notes_88 ?_
                refine lv_bipush (v := 70) hx hb dX7_notes_91 (by decide) ?_
                refine lv_iload hx hb dX7_notes_93 (lv_at hl 4 rfl) ?_
                refine lv_iadd hx hb dX7_notes_95 ?_
                refine lv_eqi (y := nI (70 + i)) (nI_add _ _) ?_
                refine lv_iconst (v := 3) hx hb dX7_notes_96 (by decide) ?_
                refine lv_iadd hx hb dX7_notes_97 ?_
                refine lv_eqi (y := nI ((70 + i) + 3)) (nI_add _ _) ?_
                refine r_iald hx hb hK hP 1 0 ((70 + i) + 3) (f := shR B i) rfl rfl (by omega) (by omega) dX7_notes_98 ?_
                refine r_iast hx hb hK hP hD hS 1 0 (70 + i) (f := shR B i) (x := (shR B i) ((70 + i) + 3)) (wn := List.flatten [mdO m0 m1 m2 m3 th sv kp ln ca lt fi sd hs, arC cI m1 1170 (upd (shR B i) (70 + i) ((shR B i) ((70 + i) + 3))), arC cI m2 60 T, arC cI m3 8 (ht (B 0))]) rfl rfl (by omega) (by omega) rfl dX7_notes_99 (fun H locs hP hD hS => ?_)
                refine lv_iinc (v := nI (i + 1)) (lv' := [(4, .int (nI (i + 1))), (0, .ref m0), (1, .int (nI b)), (2, .int (tel (B 0) b)), (3, .int (nI k))]) hx hb dX7_notes_100 hl (k := 4) rfl (nI_add _ _) (by decide) rfl (fun ls hl => ?_)
                refine lv_goto (tgt := 71) hx hb dX7_notes_103 (by decide) ?_
                obtain ⟨hP, hD⟩ := PD_cg hP hD 1 (shR B (i + 1)) rfl (fun j _ => shR_s j) (wn := List.flatten [mdO m0 m1 m2 m3 th sv kp ln ca lt fi sd hs, arC cI m1 1170 (shR B (i + 1)), arC cI m2 60 T, arC cI m3 8 (ht (B 0))]) rfl
                exact ih  (i + 1) trivial (by omega) (by omega) _ _ _ hP hD hS (lv_sub hl [1, 2, 3, 4, 0] rfl)
          obtain ⟨hP, hD⟩ := PD_cg hP hD 1 (shR B 0) rfl (fun j _ => shR_0 B j) (wn := List.flatten [mdO m0 m1 m2 m3 th sv kp ln ca lt fi sd hs, arC cI m1 1170 (shR B 0), arC cI m2 60 T, arC cI m3 8 (ht (B 0))]) rfl
          exact lp_71 (57 - 0 + 1) 0 trivial (by omega) (Nat.lt_succ_self _) _ _ _ hP hD hS (lv_sub hl [1, 2, 3, 4, 0] rfl)
      · skip
        refine lv_aload_n hx hb dX7_notes_19 rfl (lv_at hl 0 rfl) ?_
        refine va_get (D := D) (ci := 7) (v := .ref m1) (C := RX7) (T := TX7) (N := 12) hx hb hts hinX7 hown hK hP 0 rfl rfl 1 (by decide) (hts (.fieldLink RX7 7 "RibbonBalloonsModel" "s" "[I") (by decide +kernel)) (fun _ h9 => h9) rfl dX7_notes_20 ?_
        refine lv_bipush (v := 70) hx hb dX7_notes_23 (by decide) ?_
        refine lv_iconst (v := 3) hx hb dX7_notes_25 (by decide) ?_
        refine lv_iload_n hx hb dX7_notes_26 rfl (lv_at hl 3 rfl) ?_
        refine lv_imul hx hb dX7_notes_27 ?_
        refine lv_eqi (y := nI (3 * k)) (pk_mul _ _) ?_
        refine lv_iadd hx hb dX7_notes_28 ?_
        refine lv_eqi (y := nI (70 + (3 * k))) (nI_add _ _) ?_
        refine r_iald hx hb hK hP 1 0 (70 + (3 * k)) (f := enc B) rfl rfl (by omega) (by omega) dX7_notes_29 ?_
        refine lv_eqi (y := B 0 7 k) (enc_n B (w := 0) (by omega) (by decide)) ?_
        refine lv_iload_n hx hb dX7_notes_30 rfl (lv_at hl 1 rfl) ?_
        refine lv_icmp_ne (tgt := 56) hx hb dX7_notes_31 (by decide) (fun c31 => ?_) (fun c31 => ?_)
        · skip
          refine lv_iinc (v := nI (k + 1)) (lv' := [(3, .int (nI (k + 1))), (0, .ref m0), (1, .int (nI b)), (2, .int (tel (B 0) b))]) hx hb dX7_notes_56 hl (k := 3) rfl (nI_add _ _) (by decide) rfl (fun ls hl => ?_)
          refine lv_goto (tgt := 8) hx hb dX7_notes_59 (by decide) ?_
          exact ih  (k + 1) trivial (by omega) (by rw [← hinv]; first | exact (plk_s1 (by omega) c31).symm | exact (plk_s2 (by omega) c53).symm) (by omega) _ _ _ hP hD hS (lv_sub hl [1, 2, 3, 0] rfl)
        · skip
          refine lv_aload_n hx hb dX7_notes_34 rfl (lv_at hl 0 rfl) ?_
          refine va_get (D := D) (ci := 7) (v := .ref m1) (C := RX7) (T := TX7) (N := 12) hx hb hts hinX7 hown hK hP 0 rfl rfl 1 (by decide) (hts (.fieldLink RX7 7 "RibbonBalloonsModel" "s" "[I") (by decide +kernel)) (fun _ h9 => h9) rfl dX7_notes_35 ?_
          refine lv_bipush (v := 70) hx hb dX7_notes_38 (by decide) ?_
          refine lv_iconst (v := 3) hx hb dX7_notes_40 (by decide) ?_
          refine lv_iload_n hx hb dX7_notes_41 rfl (lv_at hl 3 rfl) ?_
          refine lv_imul hx hb dX7_notes_42 ?_
          refine lv_eqi (y := nI (3 * k)) (pk_mul _ _) ?_
          refine lv_iadd hx hb dX7_notes_43 ?_
          refine lv_eqi (y := nI (70 + (3 * k))) (nI_add _ _) ?_
          refine lv_iconst (v := 1) hx hb dX7_notes_44 (by decide) ?_
          refine lv_iadd hx hb dX7_notes_45 ?_
          refine lv_eqi (y := nI ((70 + (3 * k)) + 1)) (nI_add _ _) ?_
          refine r_iald hx hb hK hP 1 0 ((70 + (3 * k)) + 1) (f := enc B) rfl rfl (by omega) (by omega) dX7_notes_46 ?_
          refine lv_eqi (y := B 0 8 k) (enc_n B (w := 1) (by omega) (by decide)) ?_
          refine lv_aload_n hx hb dX7_notes_47 rfl (lv_at hl 0 rfl) ?_
          refine va_get (D := D) (ci := 7) (v := .ref m1) (C := RX7) (T := TX7) (N := 12) hx hb hts hinX7 hown hK hP 0 rfl rfl 1 (by decide) (hts (.fieldLink RX7 7 "RibbonBalloonsModel" "s" "[I") (by decide +kernel)) (fun _ h9 => h9) rfl dX7_notes_48 ?_
          refine lv_iconst (v := 0) hx hb dX7_notes_51 (by decide) ?_
          refine r_iald hx hb hK hP 1 0 0 (f := enc B) rfl rfl (by omega) (by omega) dX7_notes_52 ?_
          refine lv_eqi (y := B 0 12 0) (enc_at0 B (by decide)) ?_
          refine lv_icmp_eq (tgt := 62) hx hb dX7_notes_53 (by decide) (fun c53 => ?_) (fun c53 => ?_)
          · skip
            have ekp : k = (plc (B 0) y (nI b) (B 0 12 0)) := by first | exact plk_f (by omega) c31 c53 hinv | (have e := plk_o hk c16 hinv; omega)
            refine lv_iload_n hx hb dX7_notes_62 rfl (lv_at hl 3 rfl) ?_
            refine lv_bipush (v := 20) hx hb dX7_notes_63 (by decide) ?_
            refine n_ne (i := k) (j := 20) (tgt := 109) hx hb (by omega) (by omega) dX7_notes_65 (by decide) (fun c65 => ?_) (fun c65 => ?_)
            · skip
              have hl : lv_has ls 5 [(0, .ref m0), (1, .int (nI b)), (2, .int (tel (B 0) b)), (3, .int (nI (ntp k)))] := lv_re hl 3 (x := nI k) (y := nI (ntp k)) rfl (by first | exact ntp_a c65 | exact ntp_b c65) rfl
              have hnp : ntp k < 20 := ntp_lt hk hy20
              obtain ⟨hP, hD⟩ := PD_cg hP hD 1 (enc (uA B 0 (ntM (B 0) k))) rfl (fun j _ => by first | exact ntM_a c65 j | exact ntM_b c65 (by omega) (by omega) j) (wn := List.flatten [mdO m0 m1 m2 m3 th sv kp ln ca lt fi sd hs, arC cI m1 1170 (enc (uA B 0 (ntM (B 0) k))), arC cI m2 60 T, arC cI m3 8 (ht (B 0))]) rfl
              refine lv_aload_n hx hb dX7_notes_109 rfl (lv_at hl 0 rfl) ?_
              refine va_get (D := D) (ci := 7) (v := .ref m1) (C := RX7) (T := TX7) (N := 12) hx hb hts hinX7 hown hK hP 0 rfl rfl 1 (by decide) (hts (.fieldLink RX7 7 "RibbonBalloonsModel" "s" "[I") (by decide +kernel)) (fun _ h9 => h9) rfl dX7_notes_110 ?_
              refine lv_bipush (v := 8) hx hb dX7_notes_113 (by decide) ?_
              refine lv_iload_n hx hb dX7_notes_115 rfl (lv_at hl 3 rfl) ?_
              refine lv_aload_n hx hb dX7_notes_116 rfl (lv_at hl 0 rfl) ?_
              refine va_get (D := D) (ci := 7) (v := .ref m1) (C := RX7) (T := TX7) (N := 12) hx hb hts hinX7 hown hK hP 0 rfl rfl 1 (by decide) (hts (.fieldLink RX7 7 "RibbonBalloonsModel" "s" "[I") (by decide +kernel)) (fun _ h9 => h9) rfl dX7_notes_117 ?_
              refine lv_bipush (v := 8) hx hb dX7_notes_120 (by decide) ?_
              refine r_iald hx hb hK hP 1 0 8 (f := enc (uA B 0 (ntM (B 0) k))) rfl rfl (by omega) (by omega) dX7_notes_122 ?_
              refine lv_eqi (y := nI y) (by rw [enc_at0 _ (by decide), uA_s, ntM_12]; exact hy) ?_
              refine n_ge (i := ntp k) (j := y) (tgt := 136) hx hb (by omega) (by omega) dX7_notes_123 (by decide) (fun c123 => ?_) (fun c123 => ?_)
              · skip
                refine lv_iload_n hx hb dX7_notes_136 rfl (lv_at hl 3 rfl) ?_
                refine lv_iconst (v := 1) hx hb dX7_notes_137 (by decide) ?_
                refine lv_iadd hx hb dX7_notes_138 ?_
                refine lv_eqi (y := nI ((ntp k) + 1)) (nI_add _ _) ?_
                refine r_iast hx hb hK hP hD hS 1 0 8 (f := enc (uA B 0 (ntM (B 0) k))) (x := nI ((ntp k) + 1)) (wn := List.flatten [mdO m0 m1 m2 m3 th sv kp ln ca lt fi sd hs, arC cI m1 1170 (upd (enc (uA B 0 (ntM (B 0) k))) 8 (nI ((ntp k) + 1))), arC cI m2 60 T, arC cI m3 8 (ht (B 0))]) rfl rfl (by omega) (by omega) rfl dX7_notes_139 (fun H locs hP hD hS => ?_)
                obtain ⟨hP, hD⟩ := PD_cg hP hD 1 (enc (uA B 0 (u2 (ntM (B 0) k) 12 8 (nI (nsz y k))))) rfl (fun j _ => by rw [enc_u0 _ _ (by decide)]; first | rw [nsz_1 hk hy20 (by omega)] | rw [nsz_2 hk hy20 (by omega)]) (wn := List.flatten [mdO m0 m1 m2 m3 th sv kp ln ca lt fi sd hs, arC cI m1 1170 (enc (uA B 0 (u2 (ntM (B 0) k) 12 8 (nI (nsz y k))))), arC cI m2 60 T, arC cI m3 8 (ht (B 0))]) rfl
                refine lv_aload_n hx hb dX7_notes_140 rfl (lv_at hl 0 rfl) ?_
                refine va_get (D := D) (ci := 7) (v := .ref m1) (C := RX7) (T := TX7) (N := 12) hx hb hts hinX7 hown hK hP 0 rfl rfl 1 (by decide) (hts (.fieldLink RX7 7 "RibbonBalloonsModel" "s" "[I") (by decide +kernel)) (fun _ h9 => h9) rfl dX7_notes_141 ?_
                refine lv_bipush (v := 70) hx hb dX7_notes_144 (by decide) ?_
                refine lv_iconst (v := 3) hx hb dX7_notes_146 (by decide) ?_
                refine lv_iload_n hx hb dX7_notes_147 rfl (lv_at hl 3 rfl) ?_
                refine lv_imul hx hb dX7_notes_148 ?_
                refine lv_eqi (y := nI (3 * (ntp k))) (pk_mul _ _) ?_
                refine lv_iadd hx hb dX7_notes_149 ?_
                refine lv_eqi (y := nI (70 + (3 * (ntp k)))) (nI_add _ _) ?_
                refine lv_iload_n hx hb dX7_notes_150 rfl (lv_at hl 1 rfl) ?_
                refine r_iast hx hb hK hP hD hS 1 0 (70 + (3 * (ntp k))) (f := enc (uA B 0 (u2 (ntM (B 0) k) 12 8 (nI (nsz y k))))) (x := nI b) (wn := List.flatten [mdO m0 m1 m2 m3 th sv kp ln ca lt fi sd hs, arC cI m1 1170 (upd (enc (uA B 0 (u2 (ntM (B 0) k) 12 8 (nI (nsz y k))))) (70 + (3 * (ntp k))) (nI b)), arC cI m2 60 T, arC cI m3 8 (ht (B 0))]) rfl rfl (by omega) (by omega) rfl dX7_notes_151 (fun H locs hP hD hS => ?_)
                obtain ⟨hP, hD⟩ := PD_cg hP hD 1 (enc (uA B 0 (u2 (u2 (ntM (B 0) k) 12 8 (nI (nsz y k))) 7 (ntp k) (nI b)))) rfl (fun j _ => by exact congrFun (enc_un B (u2 (ntM (B 0) k) 12 8 (nI (nsz y k))) (w := 0) hnp (by decide) _) j) (wn := List.flatten [mdO m0 m1 m2 m3 th sv kp ln ca lt fi sd hs, arC cI m1 1170 (enc (uA B 0 (u2 (u2 (ntM (B 0) k) 12 8 (nI (nsz y k))) 7 (ntp k) (nI b)))), arC cI m2 60 T, arC cI m3 8 (ht (B 0))]) rfl
                refine lv_aload_n hx hb dX7_notes_152 rfl (lv_at hl 0 rfl) ?_
                refine va_get (D := D) (ci := 7) (v := .ref m1) (C := RX7) (T := TX7) (N := 12) hx hb hts hinX7 hown hK hP 0 rfl rfl 1 (by decide) (hts (.fieldLink RX7 7 "RibbonBalloonsModel" "s" "[I") (by decide +kernel)) (fun _ h9 => h9) rfl dX7_notes_153 ?_
                refine lv_bipush (v := 70) hx hb dX7_notes_156 (by decide) ?_
                refine lv_iconst (v := 3) hx hb dX7_notes_158 (by decide) ?_
                refine lv_iload_n hx hb dX7_notes_159 rfl (lv_at hl 3 rfl) ?_
                refine lv_imul hx hb dX7_notes_160 ?_
                refine lv_eqi (y := nI (3 * (ntp k))) (pk_mul _ _) ?_
                refine lv_iadd hx hb dX7_notes_161 ?_
                refine lv_eqi (y := nI (70 + (3 * (ntp k)))) (nI_add _ _) ?_
                refine lv_iconst (v := 1) hx hb dX7_notes_162 (by decide) ?_
                refine lv_iadd hx hb dX7_notes_163 ?_
                refine lv_eqi (y := nI ((70 + (3 * (ntp k))) + 1)) (nI_add _ _) ?_
                refine lv_aload_n hx hb dX7_notes_164 rfl (lv_at hl 0 rfl) ?_
                refine va_get (D := D) (ci := 7) (v := .ref m1) (C := RX7) (T := TX7) (N := 12) hx hb hts hinX7 hown hK hP 0 rfl rfl 1 (by decide) (hts (.fieldLink RX7 7 "RibbonBalloonsModel" "s" "[I") (by decide +kernel)) (fun _ h9 => h9) rfl dX7_notes_165 ?_
                refine lv_iconst (v := 0) hx hb dX7_notes_168 (by decide) ?_
                refine r_iald hx hb hK hP 1 0 0 (f := enc (uA B 0 (u2 (u2 (ntM (B 0) k) 12 8 (nI (nsz y k))) 7 (ntp k) (nI b)))) rfl rfl (by omega) (by omega) dX7_notes_169 ?_
                refine lv_eqi (y := B 0 12 0) (by rw [enc_at0 _ (by decide), uA_s]; exact ntM_h _ _ _ _ _) ?_
                refine r_iast hx hb hK hP hD hS 1 0 ((70 + (3 * (ntp k))) + 1) (f := enc (uA B 0 (u2 (u2 (ntM (B 0) k) 12 8 (nI (nsz y k))) 7 (ntp k) (nI b)))) (x := B 0 12 0) (wn := List.flatten [mdO m0 m1 m2 m3 th sv kp ln ca lt fi sd hs, arC cI m1 1170 (upd (enc (uA B 0 (u2 (u2 (ntM (B 0) k) 12 8 (nI (nsz y k))) 7 (ntp k) (nI b)))) ((70 + (3 * (ntp k))) + 1) (B 0 12 0)), arC cI m2 60 T, arC cI m3 8 (ht (B 0))]) rfl rfl (by omega) (by omega) rfl dX7_notes_170 (fun H locs hP hD hS => ?_)
                obtain ⟨hP, hD⟩ := PD_cg hP hD 1 (enc (uA B 0 (u2 (u2 (u2 (ntM (B 0) k) 12 8 (nI (nsz y k))) 7 (ntp k) (nI b)) 8 (ntp k) (B 0 12 0)))) rfl (fun j _ => by exact congrFun (enc_un B (u2 (u2 (ntM (B 0) k) 12 8 (nI (nsz y k))) 7 (ntp k) (nI b)) (w := 1) hnp (by decide) _) j) (wn := List.flatten [mdO m0 m1 m2 m3 th sv kp ln ca lt fi sd hs, arC cI m1 1170 (enc (uA B 0 (u2 (u2 (u2 (ntM (B 0) k) 12 8 (nI (nsz y k))) 7 (ntp k) (nI b)) 8 (ntp k) (B 0 12 0)))), arC cI m2 60 T, arC cI m3 8 (ht (B 0))]) rfl
                refine lv_aload_n hx hb dX7_notes_171 rfl (lv_at hl 0 rfl) ?_
                refine va_get (D := D) (ci := 7) (v := .ref m1) (C := RX7) (T := TX7) (N := 12) hx hb hts hinX7 hown hK hP 0 rfl rfl 1 (by decide) (hts (.fieldLink RX7 7 "RibbonBalloonsModel" "s" "[I") (by decide +kernel)) (fun _ h9 => h9) rfl dX7_notes_172 ?_
                refine lv_bipush (v := 70) hx hb dX7_notes_175 (by decide) ?_
                refine lv_iconst (v := 3) hx hb dX7_notes_177 (by decide) ?_
                refine lv_iload_n hx hb dX7_notes_178 rfl (lv_at hl 3 rfl) ?_
                refine lv_imul hx hb dX7_notes_179 ?_
                refine lv_eqi (y := nI (3 * (ntp k))) (pk_mul _ _) ?_
                refine lv_iadd hx hb dX7_notes_180 ?_
                refine lv_eqi (y := nI (70 + (3 * (ntp k)))) (nI_add _ _) ?_
                refine lv_iconst (v := 2) hx hb dX7_notes_181 (by decide) ?_
                refine lv_iadd hx hb dX7_notes_182 ?_
                refine lv_eqi (y := nI ((70 + (3 * (ntp k))) + 2)) (nI_add _ _) ?_
                refine lv_iload_n hx hb dX7_notes_183 rfl (lv_at hl 2 rfl) ?_
                refine r_iast hx hb hK hP hD hS 1 0 ((70 + (3 * (ntp k))) + 2) (f := enc (uA B 0 (u2 (u2 (u2 (ntM (B 0) k) 12 8 (nI (nsz y k))) 7 (ntp k) (nI b)) 8 (ntp k) (B 0 12 0)))) (x := tel (B 0) b) (wn := List.flatten [mdO m0 m1 m2 m3 th sv kp ln ca lt fi sd hs, arC cI m1 1170 (upd (enc (uA B 0 (u2 (u2 (u2 (ntM (B 0) k) 12 8 (nI (nsz y k))) 7 (ntp k) (nI b)) 8 (ntp k) (B 0 12 0)))) ((70 + (3 * (ntp k))) + 2) (tel (B 0) b)), arC cI m2 60 T, arC cI m3 8 (ht (B 0))]) rfl rfl (by omega) (by omega) rfl dX7_notes_184 (fun H locs hP hD hS => ?_)
                obtain ⟨hP, hD⟩ := PD_cg hP hD 1 (enc (uA B 0 (notS (B 0) y b))) rfl (fun j _ => by rw [← ntF (B 0) ekp]; exact congrFun (enc_un B (u2 (u2 (u2 (ntM (B 0) k) 12 8 (nI (nsz y k))) 7 (ntp k) (nI b)) 8 (ntp k) (B 0 12 0)) (w := 2) hnp (by decide) _) j) (wn := List.flatten [mdO m0 m1 m2 m3 th sv kp ln ca lt fi sd hs, arC cI m1 1170 (enc (uA B 0 (notS (B 0) y b))), arC cI m2 60 T, arC cI m3 8 (ht (B 0))]) rfl
                refine lv_iload_n hx hb dX7_notes_185 rfl (lv_at hl 2 rfl) ?_
                refine hend (ht (B 0)) _ _ _ _ _ trivial ?_ hP hD hS dX7_notes_186
                exact rfl
              · skip
                refine lv_aload_n hx hb dX7_notes_126 rfl (lv_at hl 0 rfl) ?_
                refine va_get (D := D) (ci := 7) (v := .ref m1) (C := RX7) (T := TX7) (N := 12) hx hb hts hinX7 hown hK hP 0 rfl rfl 1 (by decide) (hts (.fieldLink RX7 7 "RibbonBalloonsModel" "s" "[I") (by decide +kernel)) (fun _ h9 => h9) rfl dX7_notes_127 ?_
                refine lv_bipush (v := 8) hx hb dX7_notes_130 (by decide) ?_
                refine r_iald hx hb hK hP 1 0 8 (f := enc (uA B 0 (ntM (B 0) k))) rfl rfl (by omega) (by omega) dX7_notes_132 ?_
                refine lv_eqi (y := nI y) (by rw [enc_at0 _ (by decide), uA_s, ntM_12]; exact hy) ?_
                refine lv_goto (tgt := 139) hx hb dX7_notes_133 (by decide) ?_
                refine r_iast hx hb hK hP hD hS 1 0 8 (f := enc (uA B 0 (ntM (B 0) k))) (x := nI y) (wn := List.flatten [mdO m0 m1 m2 m3 th sv kp ln ca lt fi sd hs, arC cI m1 1170 (upd (enc (uA B 0 (ntM (B 0) k))) 8 (nI y)), arC cI m2 60 T, arC cI m3 8 (ht (B 0))]) rfl rfl (by omega) (by omega) rfl dX7_notes_139 (fun H locs hP hD hS => ?_)
                obtain ⟨hP, hD⟩ := PD_cg hP hD 1 (enc (uA B 0 (u2 (ntM (B 0) k) 12 8 (nI (nsz y k))))) rfl (fun j _ => by rw [enc_u0 _ _ (by decide)]; first | rw [nsz_1 hk hy20 (by omega)] | rw [nsz_2 hk hy20 (by omega)]) (wn := List.flatten [mdO m0 m1 m2 m3 th sv kp ln ca lt fi sd hs, arC cI m1 1170 (enc (uA B 0 (u2 (ntM (B 0) k) 12 8 (nI (nsz y k))))), arC cI m2 60 T, arC cI m3 8 (ht (B 0))]) rfl
                refine lv_aload_n hx hb dX7_notes_140 rfl (lv_at hl 0 rfl) ?_
                refine va_get (D := D) (ci := 7) (v := .ref m1) (C := RX7) (T := TX7) (N := 12) hx hb hts hinX7 hown hK hP 0 rfl rfl 1 (by decide) (hts (.fieldLink RX7 7 "RibbonBalloonsModel" "s" "[I") (by decide +kernel)) (fun _ h9 => h9) rfl dX7_notes_141 ?_
                refine lv_bipush (v := 70) hx hb dX7_notes_144 (by decide) ?_
                refine lv_iconst (v := 3) hx hb dX7_notes_146 (by decide) ?_
                refine lv_iload_n hx hb dX7_notes_147 rfl (lv_at hl 3 rfl) ?_
                refine lv_imul hx hb dX7_notes_148 ?_
                refine lv_eqi (y := nI (3 * (ntp k))) (pk_mul _ _) ?_
                refine lv_iadd hx hb dX7_notes_149 ?_
                refine lv_eqi (y := nI (70 + (3 * (ntp k)))) (nI_add _ _) ?_
                refine lv_iload_n hx hb dX7_notes_150 rfl (lv_at hl 1 rfl) ?_
                refine r_iast hx hb hK hP hD hS 1 0 (70 + (3 * (ntp k))) (f := enc (uA B 0 (u2 (ntM (B 0) k) 12 8 (nI (nsz y k))))) (x := nI b) (wn := List.flatten [mdO m0 m1 m2 m3 th sv kp ln ca lt fi sd hs, arC cI m1 1170 (upd (enc (uA B 0 (u2 (ntM (B 0) k) 12 8 (nI (nsz y k))))) (70 + (3 * (ntp k))) (nI b)), arC cI m2 60 T, arC cI m3 8 (ht (B 0))]) rfl rfl (by omega) (by omega) rfl dX7_notes_151 (fun H locs hP hD hS => ?_)
                obtain ⟨hP, hD⟩ := PD_cg hP hD 1 (enc (uA B 0 (u2 (u2 (ntM (B 0) k) 12 8 (nI (nsz y k))) 7 (ntp k) (nI b)))) rfl (fun j _ => by exact congrFun (enc_un B (u2 (ntM (B 0) k) 12 8 (nI (nsz y k))) (w := 0) hnp (by decide) _) j) (wn := List.flatten [mdO m0 m1 m2 m3 th sv kp ln ca lt fi sd hs, arC cI m1 1170 (enc (uA B 0 (u2 (u2 (ntM (B 0) k) 12 8 (nI (nsz y k))) 7 (ntp k) (nI b)))), arC cI m2 60 T, arC cI m3 8 (ht (B 0))]) rfl
                refine lv_aload_n hx hb dX7_notes_152 rfl (lv_at hl 0 rfl) ?_
                refine va_get (D := D) (ci := 7) (v := .ref m1) (C := RX7) (T := TX7) (N := 12) hx hb hts hinX7 hown hK hP 0 rfl rfl 1 (by decide) (hts (.fieldLink RX7 7 "RibbonBalloonsModel" "s" "[I") (by decide +kernel)) (fun _ h9 => h9) rfl dX7_notes_153 ?_
                refine lv_bipush (v := 70) hx hb dX7_notes_156 (by decide) ?_
                refine lv_iconst (v := 3) hx hb dX7_notes_158 (by decide) ?_
                refine lv_iload_n hx hb dX7_notes_159 rfl (lv_at hl 3 rfl) ?_
                refine lv_imul hx hb dX7_notes_160 ?_
                refine lv_eqi (y := nI (3 * (ntp k))) (pk_mul _ _) ?_
                refine lv_iadd hx hb dX7_notes_161 ?_
                refine lv_eqi (y := nI (70 + (3 * (ntp k)))) (nI_add _ _) ?_
                refine lv_iconst (v := 1) hx hb dX7_notes_162 (by decide) ?_
                refine lv_iadd hx hb dX7_notes_163 ?_
                refine lv_eqi (y := nI ((70 + (3 * (ntp k))) + 1)) (nI_add _ _) ?_
                refine lv_aload_n hx hb dX7_notes_164 rfl (lv_at hl 0 rfl) ?_
                refine va_get (D := D) (ci := 7) (v := .ref m1) (C := RX7) (T := TX7) (N := 12) hx hb hts hinX7 hown hK hP 0 rfl rfl 1 (by decide) (hts (.fieldLink RX7 7 "RibbonBalloonsModel" "s" "[I") (by decide +kernel)) (fun _ h9 => h9) rfl dX7_notes_165 ?_
                refine lv_iconst (v := 0) hx hb dX7_notes_168 (by decide) ?_
                refine r_iald hx hb hK hP 1 0 0 (f := enc (uA B 0 (u2 (u2 (ntM (B 0) k) 12 8 (nI (nsz y k))) 7 (ntp k) (nI b)))) rfl rfl (by omega) (by omega) dX7_notes_169 ?_
                refine lv_eqi (y := B 0 12 0) (by rw [enc_at0 _ (by decide), uA_s]; exact ntM_h _ _ _ _ _) ?_
                refine r_iast hx hb hK hP hD hS 1 0 ((70 + (3 * (ntp k))) + 1) (f := enc (uA B 0 (u2 (u2 (ntM (B 0) k) 12 8 (nI (nsz y k))) 7 (ntp k) (nI b)))) (x := B 0 12 0) (wn := List.flatten [mdO m0 m1 m2 m3 th sv kp ln ca lt fi sd hs, arC cI m1 1170 (upd (enc (uA B 0 (u2 (u2 (ntM (B 0) k) 12 8 (nI (nsz y k))) 7 (ntp k) (nI b)))) ((70 + (3 * (ntp k))) + 1) (B 0 12 0)), arC cI m2 60 T, arC cI m3 8 (ht (B 0))]) rfl rfl (by omega) (by omega) rfl dX7_notes_170 (fun H locs hP hD hS => ?_)
                obtain ⟨hP, hD⟩ := PD_cg hP hD 1 (enc (uA B 0 (u2 (u2 (u2 (ntM (B 0) k) 12 8 (nI (nsz y k))) 7 (ntp k) (nI b)) 8 (ntp k) (B 0 12 0)))) rfl (fun j _ => by exact congrFun (enc_un B (u2 (u2 (ntM (B 0) k) 12 8 (nI (nsz y k))) 7 (ntp k) (nI b)) (w := 1) hnp (by decide) _) j) (wn := List.flatten [mdO m0 m1 m2 m3 th sv kp ln ca lt fi sd hs, arC cI m1 1170 (enc (uA B 0 (u2 (u2 (u2 (ntM (B 0) k) 12 8 (nI (nsz y k))) 7 (ntp k) (nI b)) 8 (ntp k) (B 0 12 0)))), arC cI m2 60 T, arC cI m3 8 (ht (B 0))]) rfl
                refine lv_aload_n hx hb dX7_notes_171 rfl (lv_at hl 0 rfl) ?_
                refine va_get (D := D) (ci := 7) (v := .ref m1) (C := RX7) (T := TX7) (N := 12) hx hb hts hinX7 hown hK hP 0 rfl rfl 1 (by decide) (hts (.fieldLink RX7 7 "RibbonBalloonsModel" "s" "[I") (by decide +kernel)) (fun _ h9 => h9) rfl dX7_notes_172 ?_
                refine lv_bipush (v := 70) hx hb dX7_notes_175 (by decide) ?_
                refine lv_iconst (v := 3) hx hb dX7_notes_177 (by decide) ?_
                refine lv_iload_n hx hb dX7_notes_178 rfl (lv_at hl 3 rfl) ?_
                refine lv_imul hx hb dX7_notes_179 ?_
                refine lv_eqi (y := nI (3 * (ntp k))) (pk_mul _ _) ?_
                refine lv_iadd hx hb dX7_notes_180 ?_
                refine lv_eqi (y := nI (70 + (3 * (ntp k)))) (nI_add _ _) ?_
                refine lv_iconst (v := 2) hx hb dX7_notes_181 (by decide) ?_
                refine lv_iadd hx hb dX7_notes_182 ?_
                refine lv_eqi (y := nI ((70 + (3 * (ntp k))) + 2)) (nI_add _ _) ?_
                refine lv_iload_n hx hb dX7_notes_183 rfl (lv_at hl 2 rfl) ?_
                refine r_iast hx hb hK hP hD hS 1 0 ((70 + (3 * (ntp k))) + 2) (f := enc (uA B 0 (u2 (u2 (u2 (ntM (B 0) k) 12 8 (nI (nsz y k))) 7 (ntp k) (nI b)) 8 (ntp k) (B 0 12 0)))) (x := tel (B 0) b) (wn := List.flatten [mdO m0 m1 m2 m3 th sv kp ln ca lt fi sd hs, arC cI m1 1170 (upd (enc (uA B 0 (u2 (u2 (u2 (ntM (B 0) k) 12 8 (nI (nsz y k))) 7 (ntp k) (nI b)) 8 (ntp k) (B 0 12 0)))) ((70 + (3 * (ntp k))) + 2) (tel (B 0) b)), arC cI m2 60 T, arC cI m3 8 (ht (B 0))]) rfl rfl (by omega) (by omega) rfl dX7_notes_184 (fun H locs hP hD hS => ?_)
                obtain ⟨hP, hD⟩ := PD_cg hP hD 1 (enc (uA B 0 (notS (B 0) y b))) rfl (fun j _ => by rw [← ntF (B 0) ekp]; exact congrFun (enc_un B (u2 (u2 (u2 (ntM (B 0) k) 12 8 (nI (nsz y k))) 7 (ntp k) (nI b)) 8 (ntp k) (B 0 12 0)) (w := 2) hnp (by decide) _) j) (wn := List.flatten [mdO m0 m1 m2 m3 th sv kp ln ca lt fi sd hs, arC cI m1 1170 (enc (uA B 0 (notS (B 0) y b))), arC cI m2 60 T, arC cI m3 8 (ht (B 0))]) rfl
                refine lv_iload_n hx hb dX7_notes_185 rfl (lv_at hl 2 rfl) ?_
                refine hend (ht (B 0)) _ _ _ _ _ trivial ?_ hP hD hS dX7_notes_186
                exact rfl
            · skip
              refine lv_iconst (v := 0) hx hb dX7_notes_68 (by decide) ?_
              refine lv_istore (lv' := [(4, .int 0), (0, .ref m0), (1, .int (nI b)), (2, .int (tel (B 0) b)), (3, .int (nI k))]) hx hb dX7_notes_69 hl (by decide) rfl (fun ls hl => ?_)
              have lp_71 : ∀ (nn : Nat) (i : Nat), True → (i ≤ 57) → 57 - i < nn → ∀ (H : Heap) (locs : List Loc) (ls : Array Slot), va_P D vwCl (List.flatten [mdO m0 m1 m2 m3 th sv kp ln ca lt fi sd hs, arC cI m1 1170 (shR B i), arC cI m2 60 T, arC cI m3 8 (ht (B 0))]) H → va_D A (List.flatten [mdO m0 m1 m2 m3 th sv kp ln ca lt fi sd hs, arC cI m1 1170 (shR B i), arC cI m2 60 T, arC cI m3 8 (ht (B 0))]) → va_S A s.heap H locs → lv_has ls 5 [(0, .ref m0), (1, .int (nI b)), (2, .int (tel (B 0) b)), (3, .int (nI k)), (4, .int (nI i))] → W p l e ({ frames := 6, cells := 0, slots := 0, locals := 132 } : Room) s m ([.ref m0, .int (nI b)] : List Value).toArray below meth c H locs 0 0 Q (F0 m 71 ls []) := by
                intro nn
                induction nn with
                | zero => intro i _ hi hmz; exact absurd hmz (Nat.not_lt_zero _)
                | succ nn ih =>
                  intro i _ hi hms H locs ls hP hD hS hl
                  refine lv_iload hx hb dX7_notes_71 (lv_at hl 4 rfl) ?_
                  refine lv_bipush (v := 57) hx hb dX7_notes_73 (by decide) ?_
                  refine n_ge (i := i) (j := 57) (tgt := 106) hx hb (by omega) (by omega) dX7_notes_75 (by decide) (fun c75 => ?_) (fun c75 => ?_)
                  · skip
                    refine lv_iinc (v := nI (k - 1)) (lv' := [(3, .int (nI (k - 1))), (0, .ref m0), (1, .int (nI b)), (2, .int (tel (B 0) b)), (4, .int (nI i))]) hx hb dX7_notes_106 hl (k := 3) rfl (n_dec (by omega)) (by decide) rfl (fun ls hl => ?_)
                    have hl : lv_has ls 5 [(3, .int (nI (ntp k))), (0, .ref m0), (1, .int (nI b)), (2, .int (tel (B 0) b)), (4, .int (nI i))] := lv_re hl 0 (x := nI (k - 1)) (y := nI (ntp k)) rfl (by first | exact ntp_a c65 | exact ntp_b c65) rfl
                    have hnp : ntp k < 20 := ntp_lt hk hy20
                    obtain ⟨hP, hD⟩ := PD_cg hP hD 1 (enc (uA B 0 (ntM (B 0) k))) rfl (fun j _ => by first | exact ntM_a c65 j | exact ntM_b c65 (by omega) (by omega) j) (wn := List.flatten [mdO m0 m1 m2 m3 th sv kp ln ca lt fi sd hs, arC cI m1 1170 (enc (uA B 0 (ntM (B 0) k))), arC cI m2 60 T, arC cI m3 8 (ht (B 0))]) rfl
                    refine lv_aload_n hx hb dX7_notes_109 rfl (lv_at hl 1 rfl) ?_
                    refine va_get (D := D) (ci := 7) (v := .ref m1) (C := RX7) (T := TX7) (N := 12) hx hb hts hinX7 hown hK hP 0 rfl rfl 1 (by decide) (hts (.fieldLink RX7 7 "RibbonBalloonsModel" "s" "[I") (by decide +kernel)) (fun _ h9 => h9) rfl dX7_notes_110 ?_
                    refine lv_bipush (v := 8) hx hb dX7_notes_113 (by decide) ?_
                    refine lv_iload_n hx hb dX7_notes_115 rfl (lv_at hl 0 rfl) ?_
                    refine lv_aload_n hx hb dX7_notes_116 rfl (lv_at hl 1 rfl) ?_
                    refine va_get (D := D) (ci := 7) (v := .ref m1) (C := RX7) (T := TX7) (N := 12) hx hb hts hinX7 hown hK hP 0 rfl rfl 1 (by decide) (hts (.fieldLink RX7 7 "RibbonBalloonsModel" "s" "[I") (by decide +kernel)) (fun _ h9 => h9) rfl dX7_notes_117 ?_
                    refine lv_bipush (v := 8) hx hb dX7_notes_120 (by decide) ?_
                    refine r_iald hx hb hK hP 1 0 8 (f := enc (uA B 0 (ntM (B 0) k))) rfl rfl (by omega) (by omega) dX7_notes_122 ?_
                    refine lv_eqi (y := nI y) (by rw [enc_at0 _ (by decide), uA_s, ntM_12]; exact hy) ?_
                    refine n_ge (i := ntp k) (j := y) (tgt := 136) hx hb (by omega) (by omega) dX7_notes_123 (by decide) (fun c123 => ?_) (fun c123 => ?_)
                    · skip
                      refine lv_iload_n hx hb dX7_notes_136 rfl (lv_at hl 0 rfl) ?_
                      refine lv_iconst (v := 1) hx hb dX7_notes_137 (by decide) ?_
                      refine lv_iadd hx hb dX7_notes_138 ?_
                      refine lv_eqi (y := nI ((ntp k) + 1)) (nI_add _ _) ?_
                      refine r_iast hx hb hK hP hD hS 1 0 8 (f := enc (uA B 0 (ntM (B 0) k))) (x := nI ((ntp k) + 1)) (wn := List.flatten [mdO m0 m1 m2 m3 th sv kp ln ca lt fi sd hs, arC cI m1 1170 (upd (enc (uA B 0 (ntM (B 0) k))) 8 (nI ((ntp k) + 1))), arC cI m2 60 T, arC cI m3 8 (ht (B 0))]) rfl rfl (by omega) (by omega) rfl dX7_notes_139 (fun H locs hP hD hS => ?_)
                      obtain ⟨hP, hD⟩ := PD_cg hP hD 1 (enc (uA B 0 (u2 (ntM (B 0) k) 12 8 (nI (nsz y k))))) rfl (fun j _ => by rw [enc_u0 _ _ (by decide)]; first | rw [nsz_1 hk hy20 (by omega)] | rw [nsz_2 hk hy20 (by omega)]) (wn := List.flatten [mdO m0 m1 m2 m3 th sv kp ln ca lt fi sd hs, arC cI m1 1170 (enc (uA B 0 (u2 (ntM (B 0) k) 12 8 (nI (nsz y k))))), arC cI m2 60 T, arC cI m3 8 (ht (B 0))]) rfl
                      refine lv_aload_n hx hb dX7_notes_140 rfl (lv_at hl 1 rfl) ?_
                      refine va_get (D := D) (ci := 7) (v := .ref m1) (C := RX7) (T := TX7) (N := 12) hx hb hts hinX7 hown hK hP 0 rfl rfl 1 (by decide) (hts (.fieldLink RX7 7 "RibbonBalloonsModel" "s" "[I") (by decide +kernel)) (fun _ h9 => h9) rfl dX7_notes_141 ?_
                      refine lv_bipush (v := 70) hx hb dX7_notes_144 (by decide) ?_
                      refine lv_iconst (v := 3) hx hb dX7_notes_146 (by decide) ?_
                      refine lv_iload_n hx hb dX7_notes_147 rfl (lv_at hl 0 rfl) ?_
                      refine lv_imul hx hb dX7_notes_148 ?_
                      refine lv_eqi (y := nI (3 * (ntp k))) (pk_mul _ _) ?_
                      refine lv_iadd hx hb dX7_notes_149 ?_
                      refine lv_eqi (y := nI (70 + (3 * (ntp k)))) (nI_add _ _) ?_
                      refine lv_iload_n hx hb dX7_notes_150 rfl (lv_at hl 2 rfl) ?_
                      refine r_iast hx hb hK hP hD hS 1 0 (70 + (3 * (ntp k))) (f := enc (uA B 0 (u2 (ntM (B 0) k) 12 8 (nI (nsz y k))))) (x := nI b) (wn := List.flatten [mdO m0 m1 m2 m3 th sv kp ln ca lt fi sd hs, arC cI m1 1170 (upd (enc (uA B 0 (u2 (ntM (B 0) k) 12 8 (nI (nsz y k))))) (70 + (3 * (ntp k))) (nI b)), arC cI m2 60 T, arC cI m3 8 (ht (B 0))]) rfl rfl (by omega) (by omega) rfl dX7_notes_151 (fun H locs hP hD hS => ?_)
                      obtain ⟨hP, hD⟩ := PD_cg hP hD 1 (enc (uA B 0 (u2 (u2 (ntM (B 0) k) 12 8 (nI (nsz y k))) 7 (ntp k) (nI b)))) rfl (fun j _ => by exact congrFun (enc_un B (u2 (ntM (B 0) k) 12 8 (nI (nsz y k))) (w := 0) hnp (by decide) _) j) (wn := List.flatten [mdO m0 m1 m2 m3 th sv kp ln ca lt fi sd hs, arC cI m1 1170 (enc (uA B 0 (u2 (u2 (ntM (B 0) k) 12 8 (nI (nsz y k))) 7 (ntp k) (nI b)))), arC cI m2 60 T, arC cI m3 8 (ht (B 0))]) rfl
                      refine lv_aload_n hx hb dX7_notes_152 rfl (lv_at hl 1 rfl) ?_
                      refine va_get (D := D) (ci := 7) (v := .ref m1) (C := RX7) (T := TX7) (N := 12) hx hb hts hinX7 hown hK hP 0 rfl rfl 1 (by decide) (hts (.fieldLink RX7 7 "RibbonBalloonsModel" "s" "[I") (by decide +kernel)) (fun _ h9 => h9) rfl dX7_notes_153 ?_
                      refine lv_bipush (v := 70) hx hb dX7_notes_156 (by decide) ?_
                      refine lv_iconst (v := 3) hx hb dX7_notes_158 (by decide) ?_
                      refine lv_iload_n hx hb dX7_notes_159 rfl (lv_at hl 0 rfl) ?_
                      refine lv_imul hx hb dX7_notes_160 ?_
                      refine lv_eqi (y := nI (3 * (ntp k))) (pk_mul _ _) ?_
                      refine lv_iadd hx hb dX7_notes_161 ?_
                      refine lv_eqi (y := nI (70 + (3 * (ntp k)))) (nI_add _ _) ?_
                      refine lv_iconst (v := 1) hx hb dX7_notes_162 (by decide) ?_
                      refine lv_iadd hx hb dX7_notes_163 ?_
                      refine lv_eqi (y := nI ((70 + (3 * (ntp k))) + 1)) (nI_add _ _) ?_
                      refine lv_aload_n hx hb dX7_notes_164 rfl (lv_at hl 1 rfl) ?_
                      refine va_get (D := D) (ci := 7) (v := .ref m1) (C := RX7) (T := TX7) (N := 12) hx hb hts hinX7 hown hK hP 0 rfl rfl 1 (by decide) (hts (.fieldLink RX7 7 "RibbonBalloonsModel" "s" "[I") (by decide +kernel)) (fun _ h9 => h9) rfl dX7_notes_165 ?_
                      refine lv_iconst (v := 0) hx hb dX7_notes_168 (by decide) ?_
                      refine r_iald hx hb hK hP 1 0 0 (f := enc (uA B 0 (u2 (u2 (ntM (B 0) k) 12 8 (nI (nsz y k))) 7 (ntp k) (nI b)))) rfl rfl (by omega) (by omega) dX7_notes_169 ?_
                      refine lv_eqi (y := B 0 12 0) (by rw [enc_at0 _ (by decide), uA_s]; exact ntM_h _ _ _ _ _) ?_
                      refine r_iast hx hb hK hP hD hS 1 0 ((70 + (3 * (ntp k))) + 1) (f := enc (uA B 0 (u2 (u2 (ntM (B 0) k) 12 8 (nI (nsz y k))) 7 (ntp k) (nI b)))) (x := B 0 12 0) (wn := List.flatten [mdO m0 m1 m2 m3 th sv kp ln ca lt fi sd hs, arC cI m1 1170 (upd (enc (uA B 0 (u2 (u2 (ntM (B 0) k) 12 8 (nI (nsz y k))) 7 (ntp k) (nI b)))) ((70 + (3 * (ntp k))) + 1) (B 0 12 0)), arC cI m2 60 T, arC cI m3 8 (ht (B 0))]) rfl rfl (by omega) (by omega) rfl dX7_notes_170 (fun H locs hP hD hS => ?_)
                      obtain ⟨hP, hD⟩ := PD_cg hP hD 1 (enc (uA B 0 (u2 (u2 (u2 (ntM (B 0) k) 12 8 (nI (nsz y k))) 7 (ntp k) (nI b)) 8 (ntp k) (B 0 12 0)))) rfl (fun j _ => by exact congrFun (enc_un B (u2 (u2 (ntM (B 0) k) 12 8 (nI (nsz y k))) 7 (ntp k) (nI b)) (w := 1) hnp (by decide) _) j) (wn := List.flatten [mdO m0 m1 m2 m3 th sv kp ln ca lt fi sd hs, arC cI m1 1170 (enc (uA B 0 (u2 (u2 (u2 (ntM (B 0) k) 12 8 (nI (nsz y k))) 7 (ntp k) (nI b)) 8 (ntp k) (B 0 12 0)))), arC cI m2 60 T, arC cI m3 8 (ht (B 0))]) rfl
                      refine lv_aload_n hx hb dX7_notes_171 rfl (lv_at hl 1 rfl) ?_
                      refine va_get (D := D) (ci := 7) (v := .ref m1) (C := RX7) (T := TX7) (N := 12) hx hb hts hinX7 hown hK hP 0 rfl rfl 1 (by decide) (hts (.fieldLink RX7 7 "RibbonBalloonsModel" "s" "[I") (by decide +kernel)) (fun _ h9 => h9) rfl dX7_notes_172 ?_
                      refine lv_bipush (v := 70) hx hb dX7_notes_175 (by decide) ?_
                      refine lv_iconst (v := 3) hx hb dX7_notes_177 (by decide) ?_
                      refine lv_iload_n hx hb dX7_notes_178 rfl (lv_at hl 0 rfl) ?_
                      refine lv_imul hx hb dX7_notes_179 ?_
                      refine lv_eqi (y := nI (3 * (ntp k))) (pk_mul _ _) ?_
                      refine lv_iadd hx hb dX7_notes_180 ?_
                      refine lv_eqi (y := nI (70 + (3 * (ntp k)))) (nI_add _ _) ?_
                      refine lv_iconst (v := 2) hx hb dX7_notes_181 (by decide) ?_
                      refine lv_iadd hx hb dX7_notes_182 ?_
                      refine lv_eqi (y := nI ((70 + (3 * (ntp k))) + 2)) (nI_add _ _) ?_
                      refine lv_iload_n hx hb dX7_notes_183 rfl (lv_at hl 3 rfl) ?_
                      refine r_iast hx hb hK hP hD hS 1 0 ((70 + (3 * (ntp k))) + 2) (f := enc (uA B 0 (u2 (u2 (u2 (ntM (B 0) k) 12 8 (nI (nsz y k))) 7 (ntp k) (nI b)) 8 (ntp k) (B 0 12 0)))) (x := tel (B 0) b) (wn := List.flatten [mdO m0 m1 m2 m3 th sv kp ln ca lt fi sd hs, arC cI m1 1170 (upd (enc (uA B 0 (u2 (u2 (u2 (ntM (B 0) k) 12 8 (nI (nsz y k))) 7 (ntp k) (nI b)) 8 (ntp k) (B 0 12 0)))) ((70 + (3 * (ntp k))) + 2) (tel (B 0) b)), arC cI m2 60 T, arC cI m3 8 (ht (B 0))]) rfl rfl (by omega) (by omega) rfl dX7_notes_184 (fun H locs hP hD hS => ?_)
                      obtain ⟨hP, hD⟩ := PD_cg hP hD 1 (enc (uA B 0 (notS (B 0) y b))) rfl (fun j _ => by rw [← ntF (B 0) ekp]; exact congrFun (enc_un B (u2 (u2 (u2 (ntM (B 0) k) 12 8 (nI (nsz y k))) 7 (ntp k) (nI b)) 8 (ntp k) (B 0 12 0)) (w := 2) hnp (by decide) _) j) (wn := List.flatten [mdO m0 m1 m2 m3 th sv kp ln ca lt fi sd hs, arC cI m1 1170 (enc (uA B 0 (notS (B 0) y b))), arC cI m2 60 T, arC cI m3 8 (ht (B 0))]) rfl
                      refine lv_iload_n hx hb dX7_notes_185 rfl (lv_at hl 3 rfl) ?_
                      refine hend (ht (B 0)) _ _ _ _ _ trivial ?_ hP hD hS dX7_notes_186
                      exact rfl
                    · skip
                      refine lv_aload_n hx hb dX7_notes_126 rfl (lv_at hl 1 rfl) ?_
                      refine va_get (D := D) (ci := 7) (v := .ref m1) (C := RX7) (T := TX7) (N := 12) hx hb hts hinX7 hown hK hP 0 rfl rfl 1 (by decide) (hts (.fieldLink RX7 7 "RibbonBalloonsModel" "s" "[I") (by decide +kernel)) (fun _ h9 => h9) rfl dX7_notes_127 ?_
                      refine lv_bipush (v := 8) hx hb dX7_notes_130 (by decide) ?_
                      refine r_iald hx hb hK hP 1 0 8 (f := enc (uA B 0 (ntM (B 0) k))) rfl rfl (by omega) (by omega) dX7_notes_132 ?_
                      refine lv_eqi (y := nI y) (by rw [enc_at0 _ (by decide), uA_s, ntM_12]; exact hy) ?_
                      refine lv_goto (tgt := 139) hx hb dX7_notes_133 (by decide) ?_
                      refine r_iast hx hb hK hP hD hS 1 0 8 (f := enc (uA B 0 (ntM (B 0) k))) (x := nI y) (wn := List.flatten [mdO m0 m1 m2 m3 th sv kp ln ca lt fi sd hs, arC cI m1 1170 (upd (enc (uA B 0 (ntM (B 0) k))) 8 (nI y)), arC cI m2 60 T, arC cI m3 8 (ht (B 0))]) rfl rfl (by omega) (by omega) rfl dX7_notes_139 (fun H locs hP hD hS => ?_)
                      obtain ⟨hP, hD⟩ := PD_cg hP hD 1 (enc (uA B 0 (u2 (ntM (B 0) k) 12 8 (nI (nsz y k))))) rfl (fun j _ => by rw [enc_u0 _ _ (by decide)]; first | rw [nsz_1 hk hy20 (by omega)] | rw [nsz_2 hk hy20 (by omega)]) (wn := List.flatten [mdO m0 m1 m2 m3 th sv kp ln ca lt fi sd hs, arC cI m1 1170 (enc (uA B 0 (u2 (ntM (B 0) k) 12 8 (nI (nsz y k))))), arC cI m2 60 T, arC cI m3 8 (ht (B 0))]) rfl
                      refine lv_aload_n hx hb dX7_notes_140 rfl (lv_at hl 1 rfl) ?_
                      refine va_get (D := D) (ci := 7) (v := .ref m1) (C := RX7) (T := TX7) (N := 12) hx hb hts hinX7 hown hK hP 0 rfl rfl 1 (by decide) (hts (.fieldLink RX7 7 "RibbonBalloonsModel" "s" "[I") (by decide +kernel)) (fun _ h9 => h9) rfl dX7_notes_141 ?_
                      refine lv_bipush (v := 70) hx hb dX7_notes_144 (by decide) ?_
                      refine lv_iconst (v := 3) hx hb dX7_notes_146 (by decide) ?_
                      refine lv_iload_n hx hb dX7_notes_147 rfl (lv_at hl 0 rfl) ?_
                      refine lv_imul hx hb dX7_notes_148 ?_
                      refine lv_eqi (y := nI (3 * (ntp k))) (pk_mul _ _) ?_
                      refine lv_iadd hx hb dX7_notes_149 ?_
                      refine lv_eqi (y := nI (70 + (3 * (ntp k)))) (nI_add _ _) ?_
                      refine lv_iload_n hx hb dX7_notes_150 rfl (lv_at hl 2 rfl) ?_
                      refine r_iast hx hb hK hP hD hS 1 0 (70 + (3 * (ntp k))) (f := enc (uA B 0 (u2 (ntM (B 0) k) 12 8 (nI (nsz y k))))) (x := nI b) (wn := List.flatten [mdO m0 m1 m2 m3 th sv kp ln ca lt fi sd hs, arC cI m1 1170 (upd (enc (uA B 0 (u2 (ntM (B 0) k) 12 8 (nI (nsz y k))))) (70 + (3 * (ntp k))) (nI b)), arC cI m2 60 T, arC cI m3 8 (ht (B 0))]) rfl rfl (by omega) (by omega) rfl dX7_notes_151 (fun H locs hP hD hS => ?_)
                      obtain ⟨hP, hD⟩ := PD_cg hP hD 1 (enc (uA B 0 (u2 (u2 (ntM (B 0) k) 12 8 (nI (nsz y k))) 7 (ntp k) (nI b)))) rfl (fun j _ => by exact congrFun (enc_un B (u2 (ntM (B 0) k) 12 8 (nI (nsz y k))) (w := 0) hnp (by decide) _) j) (wn := List.flatten [mdO m0 m1 m2 m3 th sv kp ln ca lt fi sd hs, arC cI m1 1170 (enc (uA B 0 (u2 (u2 (ntM (B 0) k) 12 8 (nI (nsz y k))) 7 (ntp k) (nI b)))), arC cI m2 60 T, arC cI m3 8 (ht (B 0))]) rfl
                      refine lv_aload_n hx hb dX7_notes_152 rfl (lv_at hl 1 rfl) ?_
                      refine va_get (D := D) (ci := 7) (v := .ref m1) (C := RX7) (T := TX7) (N := 12) hx hb hts hinX7 hown hK hP 0 rfl rfl 1 (by decide) (hts (.fieldLink RX7 7 "RibbonBalloonsModel" "s" "[I") (by decide +kernel)) (fun _ h9 => h9) rfl dX7_notes_153 ?_
                      refine lv_bipush (v := 70) hx hb dX7_notes_156 (by decide) ?_
                      refine lv_iconst (v := 3) hx hb dX7_notes_158 (by decide) ?_
                      refine lv_iload_n hx hb dX7_notes_159 rfl (lv_at hl 0 rfl) ?_
                      refine lv_imul hx hb dX7_notes_160 ?_
                      refine lv_eqi (y := nI (3 * (ntp k))) (pk_mul _ _) ?_
                      refine lv_iadd hx hb dX7_notes_161 ?_
                      refine lv_eqi (y := nI (70 + (3 * (ntp k)))) (nI_add _ _) ?_
                      refine lv_iconst (v := 1) hx hb dX7_notes_162 (by decide) ?_
                      refine lv_iadd hx hb dX7_notes_163 ?_
                      refine lv_eqi (y := nI ((70 + (3 * (ntp k))) + 1)) (nI_add _ _) ?_
                      refine lv_aload_n hx hb dX7_notes_164 rfl (lv_at hl 1 rfl) ?_
                      refine va_get (D := D) (ci := 7) (v := .ref m1) (C := RX7) (T := TX7) (N := 12) hx hb hts hinX7 hown hK hP 0 rfl rfl 1 (by decide) (hts (.fieldLink RX7 7 "RibbonBalloonsModel" "s" "[I") (by decide +kernel)) (fun _ h9 => h9) rfl dX7_notes_165 ?_
                      refine lv_iconst (v := 0) hx hb dX7_notes_168 (by decide) ?_
                      refine r_iald hx hb hK hP 1 0 0 (f := enc (uA B 0 (u2 (u2 (ntM (B 0) k) 12 8 (nI (nsz y k))) 7 (ntp k) (nI b)))) rfl rfl (by omega) (by omega) dX7_notes_169 ?_
                      refine lv_eqi (y := B 0 12 0) (by rw [enc_at0 _ (by decide), uA_s]; exact ntM_h _ _ _ _ _) ?_
                      refine r_iast hx hb hK hP hD hS 1 0 ((70 + (3 * (ntp k))) + 1) (f := enc (uA B 0 (u2 (u2 (ntM (B 0) k) 12 8 (nI (nsz y k))) 7 (ntp k) (nI b)))) (x := B 0 12 0) (wn := List.flatten [mdO m0 m1 m2 m3 th sv kp ln ca lt fi sd hs, arC cI m1 1170 (upd (enc (uA B 0 (u2 (u2 (ntM (B 0) k) 12 8 (nI (nsz y k))) 7 (ntp k) (nI b)))) ((70 + (3 * (ntp k))) + 1) (B 0 12 0)), arC cI m2 60 T, arC cI m3 8 (ht (B 0))]) rfl rfl (by omega) (by omega) rfl dX7_notes_170 (fun H locs hP hD hS => ?_)
                      obtain ⟨hP, hD⟩ := PD_cg hP hD 1 (enc (uA B 0 (u2 (u2 (u2 (ntM (B 0) k) 12 8 (nI (nsz y k))) 7 (ntp k) (nI b)) 8 (ntp k) (B 0 12 0)))) rfl (fun j _ => by exact congrFun (enc_un B (u2 (u2 (ntM (B 0) k) 12 8 (nI (nsz y k))) 7 (ntp k) (nI b)) (w := 1) hnp (by decide) _) j) (wn := List.flatten [mdO m0 m1 m2 m3 th sv kp ln ca lt fi sd hs, arC cI m1 1170 (enc (uA B 0 (u2 (u2 (u2 (ntM (B 0) k) 12 8 (nI (nsz y k))) 7 (ntp k) (nI b)) 8 (ntp k) (B 0 12 0)))), arC cI m2 60 T, arC cI m3 8 (ht (B 0))]) rfl
                      refine lv_aload_n hx hb dX7_notes_171 rfl (lv_at hl 1 rfl) ?_
                      refine va_get (D := D) (ci := 7) (v := .ref m1) (C := RX7) (T := TX7) (N := 12) hx hb hts hinX7 hown hK hP 0 rfl rfl 1 (by decide) (hts (.fieldLink RX7 7 "RibbonBalloonsModel" "s" "[I") (by decide +kernel)) (fun _ h9 => h9) rfl dX7_notes_172 ?_
                      refine lv_bipush (v := 70) hx hb dX7_notes_175 (by decide) ?_
                      refine lv_iconst (v := 3) hx hb dX7_notes_177 (by decide) ?_
                      refine lv_iload_n hx hb dX7_notes_178 rfl (lv_at hl 0 rfl) ?_
                      refine lv_imul hx hb dX7_notes_179 ?_
                      refine lv_eqi (y := nI (3 * (ntp k))) (pk_mul _ _) ?_
                      refine lv_iadd hx hb dX7_notes_180 ?_
                      refine lv_eqi (y := nI (70 + (3 * (ntp k)))) (nI_add _ _) ?_
                      refine lv_iconst (v := 2) hx hb dX7_notes_181 (by decide) ?_
                      refine lv_iadd hx hb dX7_notes_182 ?_
                      refine lv_eqi (y := nI ((70 + (3 * (ntp k))) + 2)) (nI_add _ _) ?_
                      refine lv_iload_n hx hb dX7_notes_183 rfl (lv_at hl 3 rfl) ?_
                      refine r_iast hx hb hK hP hD hS 1 0 ((70 + (3 * (ntp k))) + 2) (f := enc (uA B 0 (u2 (u2 (u2 (ntM (B 0) k) 12 8 (nI (nsz y k))) 7 (ntp k) (nI b)) 8 (ntp k) (B 0 12 0)))) (x := tel (B 0) b) (wn := List.flatten [mdO m0 m1 m2 m3 th sv kp ln ca lt fi sd hs, arC cI m1 1170 (upd (enc (uA B 0 (u2 (u2 (u2 (ntM (B 0) k) 12 8 (nI (nsz y k))) 7 (ntp k) (nI b)) 8 (ntp k) (B 0 12 0)))) ((70 + (3 * (ntp k))) + 2) (tel (B 0) b)), arC cI m2 60 T, arC cI m3 8 (ht (B 0))]) rfl rfl (by omega) (by omega) rfl dX7_notes_184 (fun H locs hP hD hS => ?_)
                      obtain ⟨hP, hD⟩ := PD_cg hP hD 1 (enc (uA B 0 (notS (B 0) y b))) rfl (fun j _ => by rw [← ntF (B 0) ekp]; exact congrFun (enc_un B (u2 (u2 (u2 (ntM (B 0) k) 12 8 (nI (nsz y k))) 7 (ntp k) (nI b)) 8 (ntp k) (B 0 12 0)) (w := 2) hnp (by decide) _) j) (wn := List.flatten [mdO m0 m1 m2 m3 th sv kp ln ca lt fi sd hs, arC cI m1 1170 (enc (uA B 0 (notS (B 0) y b))), arC cI m2 60 T, arC cI m3 8 (ht (B 0))]) rfl
                      refine lv_iload_n hx hb dX7_notes_185 rfl (lv_at hl 3 rfl) ?_
                      refine hend (ht (B 0)) _ _ _ _ _ trivial ?_ hP hD hS dX7_notes_186
                      exact rfl
                  · skip
                    refine lv_aload_n hx hb dX7_notes_78 rfl (lv_at hl 0 rfl) ?_
                    refine va_get (D := D) (ci := 7) (v := .ref m1) (C := RX7) (T := TX7) (N := 12) hx hb hts hinX7 hown hK hP 0 rfl rfl 1 (by decide) (hts (.fieldLink RX7 7 "RibbonBalloonsModel" "s" "[I") (by decide +kernel)) (fun _ h9 => h9) rfl dX7_notes_79 ?_
                    refine lv_bipush (v := 70) hx hb dX7_notes_82 (by decide) ?_
                    refine lv_iload hx hb dX7_notes_84 (lv_at hl 4 rfl) ?_
                    refine lv_iadd hx hb dX7_notes_86 ?_
                    refine lv_eqi (y := nI (70 + i)) (nI_add _ _) ?_
                    refine lv_aload_n hx hb dX7_notes_87 rfl (lv_at hl 0 rfl) ?_
                    refine va_get (D := D) (ci := 7) (v := .ref m1) (C := RX7) (T := TX7) (N := 12) hx hb hts hinX7 hown hK hP 0 rfl rfl 1 (by decide) (hts (.fieldLink RX7 7 "RibbonBalloonsModel" "s" "[I") (by decide +kernel)) (fun _ h9 => h9) rfl dX7_notes_88 ?_
                    refine lv_bipush (v := 70) hx hb dX7_notes_91 (by decide) ?_
                    refine lv_iload hx hb dX7_notes_93 (lv_at hl 4 rfl) ?_
                    refine lv_iadd hx hb dX7_notes_95 ?_
                    refine lv_eqi (y := nI (70 + i)) (nI_add _ _) ?_
                    refine lv_iconst (v := 3) hx hb dX7_notes_96 (by decide) ?_
                    refine lv_iadd hx hb dX7_notes_97 ?_
                    refine lv_eqi (y := nI ((70 + i) + 3)) (nI_add _ _) ?_
                    refine r_iald hx hb hK hP 1 0 ((70 + i) + 3) (f := shR B i) rfl rfl (by omega) (by omega) dX7_notes_98 ?_
                    refine r_iast hx hb hK hP hD hS 1 0 (70 + i) (f := shR B i) (x := (shR B i) ((70 + i) + 3)) (wn := List.flatten [mdO m0 m1 m2 m3 th sv kp ln ca lt fi sd hs, arC cI m1 1170 (upd (shR B i) (70 + i) ((shR B i) ((70 + i) + 3))), arC cI m2 60 T, arC cI m3 8 (ht (B 0))]) rfl rfl (by omega) (by omega) rfl dX7_notes_99 (fun H locs hP hD hS => ?_)
                    refine lv_iinc (v := nI (i + 1)) (lv' := [(4, .int (nI (i + 1))), (0, .ref m0), (1, .int (nI b)), (2, .int (tel (B 0) b)), (3, .int (nI k))]) hx hb dX7_notes_100 hl (k := 4) rfl (nI_add _ _) (by decide) rfl (fun ls hl => ?_)
                    refine lv_goto (tgt := 71) hx hb dX7_notes_103 (by decide) ?_
                    obtain ⟨hP, hD⟩ := PD_cg hP hD 1 (shR B (i + 1)) rfl (fun j _ => shR_s j) (wn := List.flatten [mdO m0 m1 m2 m3 th sv kp ln ca lt fi sd hs, arC cI m1 1170 (shR B (i + 1)), arC cI m2 60 T, arC cI m3 8 (ht (B 0))]) rfl
                    exact ih  (i + 1) trivial (by omega) (by omega) _ _ _ hP hD hS (lv_sub hl [1, 2, 3, 4, 0] rfl)
              obtain ⟨hP, hD⟩ := PD_cg hP hD 1 (shR B 0) rfl (fun j _ => shR_0 B j) (wn := List.flatten [mdO m0 m1 m2 m3 th sv kp ln ca lt fi sd hs, arC cI m1 1170 (shR B 0), arC cI m2 60 T, arC cI m3 8 (ht (B 0))]) rfl
              exact lp_71 (57 - 0 + 1) 0 trivial (by omega) (Nat.lt_succ_self _) _ _ _ hP hD hS (lv_sub hl [1, 2, 3, 4, 0] rfl)
          · skip
            refine lv_iinc (v := nI (k + 1)) (lv' := [(3, .int (nI (k + 1))), (0, .ref m0), (1, .int (nI b)), (2, .int (tel (B 0) b))]) hx hb dX7_notes_56 hl (k := 3) rfl (nI_add _ _) (by decide) rfl (fun ls hl => ?_)
            refine lv_goto (tgt := 8) hx hb dX7_notes_59 (by decide) ?_
            exact ih  (k + 1) trivial (by omega) (by rw [← hinv]; first | exact (plk_s1 (by omega) c31).symm | exact (plk_s2 (by omega) c53).symm) (by omega) _ _ _ hP hD hS (lv_sub hl [1, 2, 3, 0] rfl)
  exact lp_8 (y - 0 + 1) 0 trivial (Nat.zero_le _) rfl (Nat.lt_succ_self _) _ _ _ hP hD hS (lv_sub hl [2, 3, 1, 0] rfl)

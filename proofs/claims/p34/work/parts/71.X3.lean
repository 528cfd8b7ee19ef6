set_option maxHeartbeats 4000000 in
set_option maxRecDepth 100000 in
theorem c_X3_placeOf (l : Launch) (D : va_G) (cI cZ cS cJ : ClassId) (n0 : Nat) (n1 : Nat) (n2 : Nat) (n3 : Nat) (S : Nat → Nat → Int32) (z : Nat) (x : Int32) (y : Int32) (hz : S 12 8 = nI z) (hz20 : z ≤ 20) : C0 l yX3_placeOf wsX3_placeOf ({ frames := 0, cells := 0, slots := 0, locals := 0 }) D (tyL cI cZ cS cJ) [.ref n0, .int x, .int y] (List.flatten [ntX cI n0 n1 n2 n3 (S 7) (S 8) (S 9) (S 12 8)]) (some (.int (nI (plc S z x y)))) (List.flatten [ntX cI n0 n1 n2 n3 (S 7) (S 8) (S 9) (S 12 8)]) 0 0 := by
  refine C0_int (cc := cX3_placeOf) (maxL := 4) (rt := .int) (by decide) rfl (Nat.le_of_ble_eq_true rfl) (rfl) ?_
  intro p e s m below meth c A ls Q X hK hP hD hS hA hl hend
  have X : CallFix p m c cX3_placeOf 4 s ([.ref n0, .int x, .int y] : List Value).toArray wsX3_placeOf RX3 := X
  obtain ⟨hx, hb, hml, hown, hts⟩ := id X
  have hl : lv_has ls 4 [(0, .ref n0), (1, .int x), (2, .int y)] := hl
  have hinX3 : ∀ w ∈ u_ws RX3 TX3 4, w ∈ wsX3_placeOf := by decide +kernel
  refine lv_iconst (v := 0) hx hb dX3_placeOf_0 (by decide) ?_
  refine lv_istore_n (lv' := [(3, .int 0), (0, .ref n0), (1, .int x), (2, .int y)]) hx hb dX3_placeOf_1 rfl hl (by decide) rfl (fun ls hl => ?_)
  have lp_2 : ∀ (nn : Nat) (k : Nat), True → (k ≤ z) → (plk S x y (z - k) k = plc S z x y) → z - k < nn → ∀ (H : Heap) (locs : List Loc) (ls : Array Slot), va_P D vwCl (List.flatten [ntX cI n0 n1 n2 n3 (S 7) (S 8) (S 9) (S 12 8)]) H → va_D A (List.flatten [ntX cI n0 n1 n2 n3 (S 7) (S 8) (S 9) (S 12 8)]) → va_S A s.heap H locs → lv_has ls 4 [(0, .ref n0), (1, .int x), (2, .int y), (3, .int (nI k))] → W p l e ({ frames := 0, cells := 0, slots := 0, locals := 0 } : Room) s m ([.ref n0, .int x, .int y] : List Value).toArray below meth c H locs 0 0 Q (F0 m 2 ls []) := by
    intro nn
    induction nn with
    | zero => intro k _ hk hinv hmz; exact absurd hmz (Nat.not_lt_zero _)
    | succ nn ih =>
      intro k _ hk hinv hms H locs ls hP hD hS hl
      refine lv_iload_n hx hb dX3_placeOf_2 rfl (lv_at hl 3 rfl) ?_
      refine lv_aload_n hx hb dX3_placeOf_3 rfl (lv_at hl 0 rfl) ?_
      refine va_get (D := D) (ci := 3) (v := .int (S 12 8)) (C := RX3) (T := TX3) (N := 4) hx hb hts hinX3 hown hK hP 0 rfl rfl 3 (by decide) (hts (.fieldLink RX3 21 "RibbonBalloons$Notes" "size" "I") (by decide +kernel)) (fun _ h9 => h9) rfl dX3_placeOf_4 ?_
      refine lv_eqi (y := nI z) hz ?_
      refine n_ge (i := k) (j := z) (tgt := 38) hx hb (by omega) (by omega) dX3_placeOf_7 (by decide) (fun c7 => ?_) (fun c7 => ?_)
      · skip
        refine lv_aload_n hx hb dX3_placeOf_38 rfl (lv_at hl 0 rfl) ?_
        refine va_get (D := D) (ci := 3) (v := .int (S 12 8)) (C := RX3) (T := TX3) (N := 4) hx hb hts hinX3 hown hK hP 0 rfl rfl 3 (by decide) (hts (.fieldLink RX3 21 "RibbonBalloons$Notes" "size" "I") (by decide +kernel)) (fun _ h9 => h9) rfl dX3_placeOf_39 ?_
        refine lv_eqi (y := nI z) hz ?_
        refine hend _ _ _ _ _ ?_ hP hD hS dX3_placeOf_42
        exact congrArg nI (plk_o (by omega) c7 hinv)
      · skip
        refine lv_aload_n hx hb dX3_placeOf_10 rfl (lv_at hl 0 rfl) ?_
        refine va_get (D := D) (ci := 3) (v := .ref n1) (C := RX3) (T := TX3) (N := 4) hx hb hts hinX3 hown hK hP 0 rfl rfl 0 (by decide) (hts (.fieldLink RX3 9 "RibbonBalloons$Notes" "balloons" "[I") (by decide +kernel)) (fun _ h9 => h9) rfl dX3_placeOf_11 ?_
        refine lv_iload_n hx hb dX3_placeOf_14 rfl (lv_at hl 3 rfl) ?_
        refine r_iald hx hb hK hP 1 0 k (f := S 7) rfl rfl (by omega) (by omega) dX3_placeOf_15 ?_
        refine lv_iload_n hx hb dX3_placeOf_16 rfl (lv_at hl 1 rfl) ?_
        refine lv_icmp_ne (tgt := 32) hx hb dX3_placeOf_17 (by decide) (fun c17 => ?_) (fun c17 => ?_)
        · skip
          refine lv_iinc (v := nI (k + 1)) (lv' := [(3, .int (nI (k + 1))), (0, .ref n0), (1, .int x), (2, .int y)]) hx hb dX3_placeOf_32 hl (k := 3) rfl (nI_add _ _) (by decide) rfl (fun ls hl => ?_)
          refine lv_goto (tgt := 2) hx hb dX3_placeOf_35 (by decide) ?_
          exact ih  (k + 1) trivial (by omega) (by rw [← hinv]; first | exact (plk_s1 (by omega) c17).symm | exact (plk_s2 (by omega) c27).symm) (by omega) _ _ _ hP hD hS (lv_sub hl [1, 2, 3, 0] rfl)
        · skip
          refine lv_aload_n hx hb dX3_placeOf_20 rfl (lv_at hl 0 rfl) ?_
          refine va_get (D := D) (ci := 3) (v := .ref n2) (C := RX3) (T := TX3) (N := 4) hx hb hts hinX3 hown hK hP 0 rfl rfl 1 (by decide) (hts (.fieldLink RX3 15 "RibbonBalloons$Notes" "hours" "[I") (by decide +kernel)) (fun _ h9 => h9) rfl dX3_placeOf_21 ?_
          refine lv_iload_n hx hb dX3_placeOf_24 rfl (lv_at hl 3 rfl) ?_
          refine r_iald hx hb hK hP 2 0 k (f := S 8) rfl rfl (by omega) (by omega) dX3_placeOf_25 ?_
          refine lv_iload_n hx hb dX3_placeOf_26 rfl (lv_at hl 2 rfl) ?_
          refine lv_icmp_ne (tgt := 32) hx hb dX3_placeOf_27 (by decide) (fun c27 => ?_) (fun c27 => ?_)
          · skip
            refine lv_iinc (v := nI (k + 1)) (lv' := [(3, .int (nI (k + 1))), (0, .ref n0), (1, .int x), (2, .int y)]) hx hb dX3_placeOf_32 hl (k := 3) rfl (nI_add _ _) (by decide) rfl (fun ls hl => ?_)
            refine lv_goto (tgt := 2) hx hb dX3_placeOf_35 (by decide) ?_
            exact ih  (k + 1) trivial (by omega) (by rw [← hinv]; first | exact (plk_s1 (by omega) c17).symm | exact (plk_s2 (by omega) c27).symm) (by omega) _ _ _ hP hD hS (lv_sub hl [1, 2, 3, 0] rfl)
          · skip
            refine lv_iload_n hx hb dX3_placeOf_30 rfl (lv_at hl 3 rfl) ?_
            refine hend _ _ _ _ _ ?_ hP hD hS dX3_placeOf_31
            exact congrArg nI (plk_f (by omega) c17 c27 hinv)
  exact lp_2 (z - 0 + 1) 0 trivial (Nat.zero_le _) rfl (Nat.lt_succ_self _) _ _ _ hP hD hS (lv_sub hl [1, 2, 3, 0] rfl)

set_option maxHeartbeats 4000000 in
set_option maxRecDepth 100000 in
theorem c_X3_newPlaceA (l : Launch) (D : va_G) (cI cZ cS cJ : ClassId) (n0 : Nat) (n1 : Nat) (n2 : Nat) (n3 : Nat) (S : Nat → Nat → Int32) (z : Nat) (hz : S 12 8 = nI z) (hz20 : z ≤ 20) (h20 : z < 20) : C0 l yX3_newPlace wsX3_newPlace ({ frames := 0, cells := 0, slots := 0, locals := 0 }) D (tyL cI cZ cS cJ) [.ref n0] (List.flatten [ntX cI n0 n1 n2 n3 (S 7) (S 8) (S 9) (S 12 8)]) (some (.int (nI z))) (List.flatten [ntX cI n0 n1 n2 n3 (S 7) (S 8) (S 9) (nI (z + 1))]) 0 0 := by
  refine C0_int (cc := cX3_newPlace) (maxL := 1) (rt := .int) (by decide) rfl (Nat.le_of_ble_eq_true rfl) (rfl) ?_
  intro p e s m below meth c A ls Q X hK hP hD hS hA hl hend
  have X : CallFix p m c cX3_newPlace 1 s ([.ref n0] : List Value).toArray wsX3_newPlace RX3 := X
  obtain ⟨hx, hb, hml, hown, hts⟩ := id X
  have hl : lv_has ls 1 [(0, .ref n0)] := hl
  have hinX3 : ∀ w ∈ u_ws RX3 TX3 4, w ∈ wsX3_newPlace := by decide +kernel
  refine lv_aload_n hx hb dX3_newPlace_0 rfl (lv_at hl 0 rfl) ?_
  refine va_get (D := D) (ci := 3) (v := .int (S 12 8)) (C := RX3) (T := TX3) (N := 4) hx hb hts hinX3 hown hK hP 0 rfl rfl 3 (by decide) (hts (.fieldLink RX3 21 "RibbonBalloons$Notes" "size" "I") (by decide +kernel)) (fun _ h9 => h9) rfl dX3_newPlace_1 ?_
  refine lv_eqi (y := nI z) hz ?_
  refine lv_bipush (v := 20) hx hb dX3_newPlace_4 (by decide) ?_
  refine n_ge (i := z) (j := 20) (tgt := 26) hx hb (by omega) (by omega) dX3_newPlace_6 (by decide) (fun h => absurd h (by omega)) (fun _ => ?_)
  refine lv_aload_n hx hb dX3_newPlace_9 rfl (lv_at hl 0 rfl) ?_
  refine lv_dup hx hb dX3_newPlace_10 rfl ?_
  refine va_get (D := D) (ci := 3) (v := .int (S 12 8)) (C := RX3) (T := TX3) (N := 4) hx hb hts hinX3 hown hK hP 0 rfl rfl 3 (by decide) (hts (.fieldLink RX3 21 "RibbonBalloons$Notes" "size" "I") (by decide +kernel)) (fun _ h9 => h9) rfl dX3_newPlace_11 ?_
  refine lv_eqi (y := nI z) hz ?_
  refine lv_iconst (v := 1) hx hb dX3_newPlace_14 (by decide) ?_
  refine lv_iadd hx hb dX3_newPlace_15 ?_
  refine lv_eqi (y := nI (z + 1)) (nI_add _ _) ?_
  refine va_put (D := D) (ci := 3) (v := .int (nI (z + 1))) (ty := .int) (C := RX3) (T := TX3) (N := 4) hx hb hts hinX3 tyX3 tyX3_ok nmX3 hown hK hP hD hS 0 rfl rfl 3 (by decide) (hts (.fieldLink RX3 21 "RibbonBalloons$Notes" "size" "I") (by decide +kernel)) (fun _ h9 => h9) rfl (by decide +kernel) rfl rfl (Nat.le_of_ble_eq_true rfl) dX3_newPlace_16 (fun H locs hP hD hS => ?_)
  have hP : va_P D vwCl (List.flatten [ntX cI n0 n1 n2 n3 (S 7) (S 8) (S 9) (nI (z + 1))]) _ := hP
  have hD : va_D A (List.flatten [ntX cI n0 n1 n2 n3 (S 7) (S 8) (S 9) (nI (z + 1))]) := hD
  refine lv_aload_n hx hb dX3_newPlace_19 rfl (lv_at hl 0 rfl) ?_
  refine va_get (D := D) (ci := 3) (v := .int (nI (z + 1))) (C := RX3) (T := TX3) (N := 4) hx hb hts hinX3 hown hK hP 0 rfl rfl 3 (by decide) (hts (.fieldLink RX3 21 "RibbonBalloons$Notes" "size" "I") (by decide +kernel)) (fun _ h9 => h9) rfl dX3_newPlace_20 ?_
  refine lv_iconst (v := 1) hx hb dX3_newPlace_23 (by decide) ?_
  refine lv_isub hx hb dX3_newPlace_24 ?_
  refine lv_eqi (y := nI ((z + 1) - 1)) (pk_sub (a := z + 1) (b := 1) (by omega)) ?_
  refine lv_eqi (y := nI z) (rfl) ?_
  refine hend _ _ _ _ _ ?_ hP hD hS dX3_newPlace_25
  exact rfl

set_option maxHeartbeats 4000000 in
set_option maxRecDepth 100000 in
theorem c_X3_newPlaceB (l : Launch) (D : va_G) (cI cZ cS cJ : ClassId) (n0 : Nat) (n1 : Nat) (n2 : Nat) (n3 : Nat) (S : Nat → Nat → Int32) (z : Nat) (hz : S 12 8 = nI z) (hz20 : z ≤ 20) (h20 : 20 ≤ z) : C0 l yX3_newPlace wsX3_newPlace ({ frames := 1, cells := 0, slots := 0, locals := 18 }) D (tyL cI cZ cS cJ) [.ref n0] (List.flatten [ntX cI n0 n1 n2 n3 (S 7) (S 8) (S 9) (S 12 8)]) (some (.int 19)) (List.flatten [ntX cI n0 n1 n2 n3 (shf (S 7)) (shf (S 8)) (shf (S 9)) (S 12 8)]) 0 0 := by
  refine C0_int (cc := cX3_newPlace) (maxL := 1) (rt := .int) (by decide) rfl (Nat.le_of_ble_eq_true rfl) (rfl) ?_
  intro p e s m below meth c A ls Q X hK hP hD hS hA hl hend
  have X : CallFix p m c cX3_newPlace 1 s ([.ref n0] : List Value).toArray wsX3_newPlace RX3 := X
  obtain ⟨hx, hb, hml, hown, hts⟩ := id X
  have hl : lv_has ls 1 [(0, .ref n0)] := hl
  have hinX3 : ∀ w ∈ u_ws RX3 TX3 4, w ∈ wsX3_newPlace := by decide +kernel
  refine lv_aload_n hx hb dX3_newPlace_0 rfl (lv_at hl 0 rfl) ?_
  refine va_get (D := D) (ci := 3) (v := .int (S 12 8)) (C := RX3) (T := TX3) (N := 4) hx hb hts hinX3 hown hK hP 0 rfl rfl 3 (by decide) (hts (.fieldLink RX3 21 "RibbonBalloons$Notes" "size" "I") (by decide +kernel)) (fun _ h9 => h9) rfl dX3_newPlace_1 ?_
  refine lv_eqi (y := nI z) hz ?_
  refine lv_bipush (v := 20) hx hb dX3_newPlace_4 (by decide) ?_
  refine n_ge (i := z) (j := 20) (tgt := 26) hx hb (by omega) (by omega) dX3_newPlace_6 (by decide) (fun _ => ?_) (fun h => absurd h (by omega))
  refine lv_aload_n hx hb dX3_newPlace_26 rfl (lv_at hl 0 rfl) ?_
  refine va_get (D := D) (ci := 3) (v := .ref n1) (C := RX3) (T := TX3) (N := 4) hx hb hts hinX3 hown hK hP 0 rfl rfl 0 (by decide) (hts (.fieldLink RX3 9 "RibbonBalloons$Notes" "balloons" "[I") (by decide +kernel)) (fun _ h9 => h9) rfl dX3_newPlace_27 ?_
  refine lv_iconst (v := 1) hx hb dX3_newPlace_30 (by decide) ?_
  refine lv_aload_n hx hb dX3_newPlace_31 rfl (lv_at hl 0 rfl) ?_
  refine va_get (D := D) (ci := 3) (v := .ref n1) (C := RX3) (T := TX3) (N := 4) hx hb hts hinX3 hown hK hP 0 rfl rfl 0 (by decide) (hts (.fieldLink RX3 9 "RibbonBalloons$Notes" "balloons" "[I") (by decide +kernel)) (fun _ h9 => h9) rfl dX3_newPlace_32 ?_
  refine lv_iconst (v := 0) hx hb dX3_newPlace_35 (by decide) ?_
  refine lv_bipush (v := 19) hx hb dX3_newPlace_36 (by decide) ?_
  refine r_copyi (wn := List.flatten [ntX cI n0 n1 n2 n3 (va_cpy (S 7) (S 7) 1 0 19) (S 8) (S 9) (S 12 8)]) (f := S 7) (g := S 7) hx hb (hml.trans hl.1.symm) hown (hts (.methodLink RX3 25 arraycopyName) (by decide +kernel)) (hts (.native arraycopyName) (by decide +kernel)) (hts (.static arraycopyName) (by decide +kernel)) (hts (.initialized "java/lang/System") (by decide +kernel)) hK hP hD hS 1 1 0 1 0 19 rfl rfl rfl rfl (by decide) (by omega) (by omega) (by decide) (by decide) (fun _ _ => rfl) rfl (Nat.le_of_ble_eq_true rfl) (by decide) dX3_newPlace_38 (fun H locs hP hD hS => ?_)
  obtain ⟨hP, hD⟩ := PD_cg hP hD 1 (shf (S 7)) rfl (fun j hj => shf_c _ j hj) (wn := List.flatten [ntX cI n0 n1 n2 n3 (shf (S 7)) (S 8) (S 9) (S 12 8)]) rfl
  refine lv_aload_n hx hb dX3_newPlace_41 rfl (lv_at hl 0 rfl) ?_
  refine va_get (D := D) (ci := 3) (v := .ref n2) (C := RX3) (T := TX3) (N := 4) hx hb hts hinX3 hown hK hP 0 rfl rfl 1 (by decide) (hts (.fieldLink RX3 15 "RibbonBalloons$Notes" "hours" "[I") (by decide +kernel)) (fun _ h9 => h9) rfl dX3_newPlace_42 ?_
  refine lv_iconst (v := 1) hx hb dX3_newPlace_45 (by decide) ?_
  refine lv_aload_n hx hb dX3_newPlace_46 rfl (lv_at hl 0 rfl) ?_
  refine va_get (D := D) (ci := 3) (v := .ref n2) (C := RX3) (T := TX3) (N := 4) hx hb hts hinX3 hown hK hP 0 rfl rfl 1 (by decide) (hts (.fieldLink RX3 15 "RibbonBalloons$Notes" "hours" "[I") (by decide +kernel)) (fun _ h9 => h9) rfl dX3_newPlace_47 ?_
  refine lv_iconst (v := 0) hx hb dX3_newPlace_50 (by decide) ?_
  refine lv_bipush (v := 19) hx hb dX3_newPlace_51 (by decide) ?_
  refine r_copyi (wn := List.flatten [ntX cI n0 n1 n2 n3 (shf (S 7)) (va_cpy (S 8) (S 8) 1 0 19) (S 9) (S 12 8)]) (f := S 8) (g := S 8) hx hb (hml.trans hl.1.symm) hown (hts (.methodLink RX3 25 arraycopyName) (by decide +kernel)) (hts (.native arraycopyName) (by decide +kernel)) (hts (.static arraycopyName) (by decide +kernel)) (hts (.initialized "java/lang/System") (by decide +kernel)) hK hP hD hS 2 2 0 1 0 19 rfl rfl rfl rfl (by decide) (by omega) (by omega) (by decide) (by decide) (fun _ _ => rfl) rfl (Nat.le_of_ble_eq_true rfl) (by decide) dX3_newPlace_53 (fun H locs hP hD hS => ?_)
  obtain ⟨hP, hD⟩ := PD_cg hP hD 2 (shf (S 8)) rfl (fun j hj => shf_c _ j hj) (wn := List.flatten [ntX cI n0 n1 n2 n3 (shf (S 7)) (shf (S 8)) (S 9) (S 12 8)]) rfl
  refine lv_aload_n hx hb dX3_newPlace_56 rfl (lv_at hl 0 rfl) ?_
  refine va_get (D := D) (ci := 3) (v := .ref n3) (C := RX3) (T := TX3) (N := 4) hx hb hts hinX3 hown hK hP 0 rfl rfl 2 (by decide) (hts (.fieldLink RX3 18 "RibbonBalloons$Notes" "tellings" "[I") (by decide +kernel)) (fun _ h9 => h9) rfl dX3_newPlace_57 ?_
  refine lv_iconst (v := 1) hx hb dX3_newPlace_60 (by decide) ?_
  refine lv_aload_n hx hb dX3_newPlace_61 rfl (lv_at hl 0 rfl) ?_
  refine va_get (D := D) (ci := 3) (v := .ref n3) (C := RX3) (T := TX3) (N := 4) hx hb hts hinX3 hown hK hP 0 rfl rfl 2 (by decide) (hts (.fieldLink RX3 18 "RibbonBalloons$Notes" "tellings" "[I") (by decide +kernel)) (fun _ h9 => h9) rfl dX3_newPlace_62 ?_
  refine lv_iconst (v := 0) hx hb dX3_newPlace_65 (by decide) ?_
  refine lv_bipush (v := 19) hx hb dX3_newPlace_66 (by decide) ?_
  refine r_copyi (wn := List.flatten [ntX cI n0 n1 n2 n3 (shf (S 7)) (shf (S 8)) (va_cpy (S 9) (S 9) 1 0 19) (S 12 8)]) (f := S 9) (g := S 9) hx hb (hml.trans hl.1.symm) hown (hts (.methodLink RX3 25 arraycopyName) (by decide +kernel)) (hts (.native arraycopyName) (by decide +kernel)) (hts (.static arraycopyName) (by decide +kernel)) (hts (.initialized "java/lang/System") (by decide +kernel)) hK hP hD hS 3 3 0 1 0 19 rfl rfl rfl rfl (by decide) (by omega) (by omega) (by decide) (by decide) (fun _ _ => rfl) rfl (Nat.le_of_ble_eq_true rfl) (by decide) dX3_newPlace_68 (fun H locs hP hD hS => ?_)
  obtain ⟨hP, hD⟩ := PD_cg hP hD 3 (shf (S 9)) rfl (fun j hj => shf_c _ j hj) (wn := List.flatten [ntX cI n0 n1 n2 n3 (shf (S 7)) (shf (S 8)) (shf (S 9)) (S 12 8)]) rfl
  refine lv_bipush (v := 19) hx hb dX3_newPlace_71 (by decide) ?_
  refine hend _ _ _ _ _ ?_ hP hD hS dX3_newPlace_73
  exact rfl

set_option maxHeartbeats 4000000 in
set_option maxRecDepth 100000 in
theorem c_X3_write (l : Launch) (D : va_G) (cI cZ cS cJ : ClassId) (n0 : Nat) (n1 : Nat) (n2 : Nat) (n3 : Nat) (S : Nat → Nat → Int32) (z : Nat) (x : Int32) (y : Int32) (u : Int32) (hz : S 12 8 = nI z) (hz20 : z ≤ 20) : C0 l yX3_write wsX3_write ({ frames := 2, cells := 0, slots := 0, locals := 38 }) D (tyL cI cZ cS cJ) [.ref n0, .int x, .int y, .int u] (List.flatten [ntX cI n0 n1 n2 n3 (S 7) (S 8) (S 9) (S 12 8)]) none (List.flatten [ntX cI n0 n1 n2 n3 (nwr (S 7) (plc S z x y) x) (nwr (S 8) (plc S z x y) y) (nwr (S 9) (plc S z x y) u) (nI (nsz z (plc S z x y)))]) 0 0 := by
  refine C0_void (cc := cX3_write) (maxL := 5) (by decide) rfl (Nat.le_of_ble_eq_true rfl) ?_
  intro p e s m below meth c A ls Q X hnm hK hP hD hS hA hl hend
  have X : CallFix p m c cX3_write 5 s ([.ref n0, .int x, .int y, .int u] : List Value).toArray wsX3_write RX3 := X
  obtain ⟨hx, hb, hml, hown, hts⟩ := id X
  have hl : lv_has ls 5 [(0, .ref n0), (1, .int x), (2, .int y), (3, .int u)] := hl
  have hinX3 : ∀ w ∈ u_ws RX3 TX3 4, w ∈ wsX3_write := by decide +kernel
  refine lv_aload_n hx hb dX3_write_0 rfl (lv_at hl 0 rfl) ?_
  refine lv_iload_n hx hb dX3_write_1 rfl (lv_at hl 1 rfl) ?_
  refine lv_iload_n hx hb dX3_write_2 rfl (lv_at hl 2 rfl) ?_
  refine kcallV (As := [.int x, .int y]) (rest := []) (Wn := [ntX cI n0 n1 n2 n3 (S 7) (S 8) (S 9) (S 12 8)]) X (c_X3_placeOf l D cI cZ cS cJ n0 n1 n2 n3 S z x y (by assumption) (by omega)) (cwV 2 hts gX3_write_X3_placeOf rfl rfl rfl (by decide +kernel) ⟨Nat.le_of_ble_eq_true rfl, Nat.le_of_ble_eq_true rfl⟩) hK hP hD hS hA [0] rfl (by decide +kernel) rfl rfl rfl 0 3 rfl rfl rfl hl.1 rfl (Nat.le_of_ble_eq_true rfl) dX3_write_3 ⟨Nat.le_of_ble_eq_true rfl, Nat.le_of_ble_eq_true rfl⟩ (fun H locs hP hD hS => ?_)
  have hpl := plc_le S z x y
  refine lv_istore (lv' := [(4, .int (nI (plc S z x y))), (0, .ref n0), (1, .int x), (2, .int y), (3, .int u)]) hx hb dX3_write_6 hl (by decide) rfl (fun ls hl => ?_)
  refine lv_iload hx hb dX3_write_8 (lv_at hl 0 rfl) ?_
  refine lv_aload_n hx hb dX3_write_10 rfl (lv_at hl 1 rfl) ?_
  refine va_get (D := D) (ci := 3) (v := .int (S 12 8)) (C := RX3) (T := TX3) (N := 4) hx hb hts hinX3 hown hK hP 0 rfl rfl 3 (by decide) (hts (.fieldLink RX3 21 "RibbonBalloons$Notes" "size" "I") (by decide +kernel)) (fun _ h9 => h9) rfl dX3_write_11 ?_
  refine lv_eqi (y := nI z) hz ?_
  refine n_ne (i := plc S z x y) (j := z) (tgt := 23) hx hb (by omega) (by omega) dX3_write_14 (by decide) (fun c14 => ?_) (fun c14 => ?_)
  · skip
    refine lv_aload_n hx hb dX3_write_23 rfl (lv_at hl 1 rfl) ?_
    refine va_get (D := D) (ci := 3) (v := .ref n1) (C := RX3) (T := TX3) (N := 4) hx hb hts hinX3 hown hK hP 0 rfl rfl 0 (by decide) (hts (.fieldLink RX3 9 "RibbonBalloons$Notes" "balloons" "[I") (by decide +kernel)) (fun _ h9 => h9) rfl dX3_write_24 ?_
    refine lv_iload hx hb dX3_write_27 (lv_at hl 0 rfl) ?_
    refine lv_iload_n hx hb dX3_write_29 rfl (lv_at hl 2 rfl) ?_
    refine r_iast hx hb hK hP hD hS 1 0 (plc S z x y) (f := S 7) (x := x) (wn := List.flatten [ntX cI n0 n1 n2 n3 (upd (S 7) (plc S z x y) x) (S 8) (S 9) (S 12 8)]) rfl rfl (by omega) (by omega) rfl dX3_write_30 (fun H locs hP hD hS => ?_)
    refine lv_aload_n hx hb dX3_write_31 rfl (lv_at hl 1 rfl) ?_
    refine va_get (D := D) (ci := 3) (v := .ref n2) (C := RX3) (T := TX3) (N := 4) hx hb hts hinX3 hown hK hP 0 rfl rfl 1 (by decide) (hts (.fieldLink RX3 15 "RibbonBalloons$Notes" "hours" "[I") (by decide +kernel)) (fun _ h9 => h9) rfl dX3_write_32 ?_
    refine lv_iload hx hb dX3_write_35 (lv_at hl 0 rfl) ?_
    refine lv_iload_n hx hb dX3_write_37 rfl (lv_at hl 3 rfl) ?_
    refine r_iast hx hb hK hP hD hS 2 0 (plc S z x y) (f := S 8) (x := y) (wn := List.flatten [ntX cI n0 n1 n2 n3 (upd (S 7) (plc S z x y) x) (upd (S 8) (plc S z x y) y) (S 9) (S 12 8)]) rfl rfl (by omega) (by omega) rfl dX3_write_38 (fun H locs hP hD hS => ?_)
    refine lv_aload_n hx hb dX3_write_39 rfl (lv_at hl 1 rfl) ?_
    refine va_get (D := D) (ci := 3) (v := .ref n3) (C := RX3) (T := TX3) (N := 4) hx hb hts hinX3 hown hK hP 0 rfl rfl 2 (by decide) (hts (.fieldLink RX3 18 "RibbonBalloons$Notes" "tellings" "[I") (by decide +kernel)) (fun _ h9 => h9) rfl dX3_write_40 ?_
    refine lv_iload hx hb dX3_write_43 (lv_at hl 0 rfl) ?_
    refine lv_iload_n hx hb dX3_write_45 rfl (lv_at hl 4 rfl) ?_
    refine r_iast hx hb hK hP hD hS 3 0 (plc S z x y) (f := S 9) (x := u) (wn := List.flatten [ntX cI n0 n1 n2 n3 (upd (S 7) (plc S z x y) x) (upd (S 8) (plc S z x y) y) (upd (S 9) (plc S z x y) u) (S 12 8)]) rfl rfl (by omega) (by omega) rfl dX3_write_46 (fun H locs hP hD hS => ?_)
    have eZ : S 12 8 = nI (nsz z (plc S z x y)) := by first | exact nsz_a hz (by omega) | exact nsz_b (by omega) (by omega) | exact nsz_c hz (by omega) (by omega)
    obtain ⟨hP, hD⟩ := PD_re (wn := List.flatten [ntX cI n0 n1 n2 n3 (upd (S 7) (plc S z x y) x) (upd (S 8) (plc S z x y) y) (upd (S 9) (plc S z x y) u) (nI (nsz z (plc S z x y)))]) (by rw [eZ]) hP hD
    obtain ⟨hP, hD⟩ := PD_cg hP hD 1 (nwr (S 7) (plc S z x y) x) rfl (fun j hj => by first | exact nwr_a (by omega) j | exact nwr_b (by omega) (by omega) j | exact nwr_c (by omega) (by omega) j) (wn := List.flatten [ntX cI n0 n1 n2 n3 (nwr (S 7) (plc S z x y) x) (upd (S 8) (plc S z x y) y) (upd (S 9) (plc S z x y) u) (nI (nsz z (plc S z x y)))]) rfl
    obtain ⟨hP, hD⟩ := PD_cg hP hD 2 (nwr (S 8) (plc S z x y) y) rfl (fun j hj => by first | exact nwr_a (by omega) j | exact nwr_b (by omega) (by omega) j | exact nwr_c (by omega) (by omega) j) (wn := List.flatten [ntX cI n0 n1 n2 n3 (nwr (S 7) (plc S z x y) x) (nwr (S 8) (plc S z x y) y) (upd (S 9) (plc S z x y) u) (nI (nsz z (plc S z x y)))]) rfl
    obtain ⟨hP, hD⟩ := PD_cg hP hD 3 (nwr (S 9) (plc S z x y) u) rfl (fun j hj => by first | exact nwr_a (by omega) j | exact nwr_b (by omega) (by omega) j | exact nwr_c (by omega) (by omega) j) (wn := List.flatten [ntX cI n0 n1 n2 n3 (nwr (S 7) (plc S z x y) x) (nwr (S 8) (plc S z x y) y) (nwr (S 9) (plc S z x y) u) (nI (nsz z (plc S z x y)))]) rfl
    exact hend _ _ _ _ hP hD hS dX3_write_47
  · skip
    rcases Nat.lt_or_ge z 20 with h20 | h20
    · skip
      refine lv_aload_n hx hb dX3_write_17 rfl (lv_at hl 1 rfl) ?_
      refine kcallV (As := []) (rest := []) (Wn := [ntX cI n0 n1 n2 n3 (S 7) (S 8) (S 9) (nI (z + 1))]) X (c_X3_newPlaceA l D cI cZ cS cJ n0 n1 n2 n3 S z (by assumption) (by omega) (by omega)) (cwV 0 hts gX3_write_X3_newPlace rfl rfl rfl (by decide +kernel) ⟨Nat.le_of_ble_eq_true rfl, Nat.le_of_ble_eq_true rfl⟩) hK hP hD hS hA [0] rfl (by decide +kernel) rfl rfl rfl 0 3 rfl rfl rfl hl.1 rfl (Nat.le_of_ble_eq_true rfl) dX3_write_18 ⟨Nat.le_of_ble_eq_true rfl, Nat.le_of_ble_eq_true rfl⟩ (fun H locs hP hD hS => ?_)
      refine lv_istore (lv' := [(4, .int (nI z)), (0, .ref n0), (1, .int x), (2, .int y), (3, .int u)]) hx hb dX3_write_21 hl (by decide) rfl (fun ls hl => ?_)
      refine lv_aload_n hx hb dX3_write_23 rfl (lv_at hl 1 rfl) ?_
      refine va_get (D := D) (ci := 3) (v := .ref n1) (C := RX3) (T := TX3) (N := 4) hx hb hts hinX3 hown hK hP 0 rfl rfl 0 (by decide) (hts (.fieldLink RX3 9 "RibbonBalloons$Notes" "balloons" "[I") (by decide +kernel)) (fun _ h9 => h9) rfl dX3_write_24 ?_
      refine lv_iload hx hb dX3_write_27 (lv_at hl 0 rfl) ?_
      refine lv_iload_n hx hb dX3_write_29 rfl (lv_at hl 2 rfl) ?_
      refine r_iast hx hb hK hP hD hS 1 0 z (f := S 7) (x := x) (wn := List.flatten [ntX cI n0 n1 n2 n3 (upd (S 7) z x) (S 8) (S 9) (nI (z + 1))]) rfl rfl (by omega) (by omega) rfl dX3_write_30 (fun H locs hP hD hS => ?_)
      refine lv_aload_n hx hb dX3_write_31 rfl (lv_at hl 1 rfl) ?_
      refine va_get (D := D) (ci := 3) (v := .ref n2) (C := RX3) (T := TX3) (N := 4) hx hb hts hinX3 hown hK hP 0 rfl rfl 1 (by decide) (hts (.fieldLink RX3 15 "RibbonBalloons$Notes" "hours" "[I") (by decide +kernel)) (fun _ h9 => h9) rfl dX3_write_32 ?_
      refine lv_iload hx hb dX3_write_35 (lv_at hl 0 rfl) ?_
      refine lv_iload_n hx hb dX3_write_37 rfl (lv_at hl 3 rfl) ?_
      refine r_iast hx hb hK hP hD hS 2 0 z (f := S 8) (x := y) (wn := List.flatten [ntX cI n0 n1 n2 n3 (upd (S 7) z x) (upd (S 8) z y) (S 9) (nI (z + 1))]) rfl rfl (by omega) (by omega) rfl dX3_write_38 (fun H locs hP hD hS => ?_)
      refine lv_aload_n hx hb dX3_write_39 rfl (lv_at hl 1 rfl) ?_
      refine va_get (D := D) (ci := 3) (v := .ref n3) (C := RX3) (T := TX3) (N := 4) hx hb hts hinX3 hown hK hP 0 rfl rfl 2 (by decide) (hts (.fieldLink RX3 18 "RibbonBalloons$Notes" "tellings" "[I") (by decide +kernel)) (fun _ h9 => h9) rfl dX3_write_40 ?_
      refine lv_iload hx hb dX3_write_43 (lv_at hl 0 rfl) ?_
      refine lv_iload_n hx hb dX3_write_45 rfl (lv_at hl 4 rfl) ?_
      refine r_iast hx hb hK hP hD hS 3 0 z (f := S 9) (x := u) (wn := List.flatten [ntX cI n0 n1 n2 n3 (upd (S 7) z x) (upd (S 8) z y) (upd (S 9) z u) (nI (z + 1))]) rfl rfl (by omega) (by omega) rfl dX3_write_46 (fun H locs hP hD hS => ?_)
      have eZ : nI (z + 1) = nI (nsz z (plc S z x y)) := by first | exact nsz_a hz (by omega) | exact nsz_b (by omega) (by omega) | exact nsz_c hz (by omega) (by omega)
      obtain ⟨hP, hD⟩ := PD_re (wn := List.flatten [ntX cI n0 n1 n2 n3 (upd (S 7) z x) (upd (S 8) z y) (upd (S 9) z u) (nI (nsz z (plc S z x y)))]) (by rw [eZ]) hP hD
      obtain ⟨hP, hD⟩ := PD_cg hP hD 1 (nwr (S 7) (plc S z x y) x) rfl (fun j hj => by first | exact nwr_a (by omega) j | exact nwr_b (by omega) (by omega) j | exact nwr_c (by omega) (by omega) j) (wn := List.flatten [ntX cI n0 n1 n2 n3 (nwr (S 7) (plc S z x y) x) (upd (S 8) z y) (upd (S 9) z u) (nI (nsz z (plc S z x y)))]) rfl
      obtain ⟨hP, hD⟩ := PD_cg hP hD 2 (nwr (S 8) (plc S z x y) y) rfl (fun j hj => by first | exact nwr_a (by omega) j | exact nwr_b (by omega) (by omega) j | exact nwr_c (by omega) (by omega) j) (wn := List.flatten [ntX cI n0 n1 n2 n3 (nwr (S 7) (plc S z x y) x) (nwr (S 8) (plc S z x y) y) (upd (S 9) z u) (nI (nsz z (plc S z x y)))]) rfl
      obtain ⟨hP, hD⟩ := PD_cg hP hD 3 (nwr (S 9) (plc S z x y) u) rfl (fun j hj => by first | exact nwr_a (by omega) j | exact nwr_b (by omega) (by omega) j | exact nwr_c (by omega) (by omega) j) (wn := List.flatten [ntX cI n0 n1 n2 n3 (nwr (S 7) (plc S z x y) x) (nwr (S 8) (plc S z x y) y) (nwr (S 9) (plc S z x y) u) (nI (nsz z (plc S z x y)))]) rfl
      exact hend _ _ _ _ hP hD hS dX3_write_47
    · skip
      refine lv_aload_n hx hb dX3_write_17 rfl (lv_at hl 1 rfl) ?_
      refine kcallV (As := []) (rest := []) (Wn := [ntX cI n0 n1 n2 n3 (shf (S 7)) (shf (S 8)) (shf (S 9)) (S 12 8)]) X (c_X3_newPlaceB l D cI cZ cS cJ n0 n1 n2 n3 S z (by assumption) (by omega) (by omega)) (cwV 0 hts gX3_write_X3_newPlace rfl rfl rfl (by decide +kernel) ⟨Nat.le_of_ble_eq_true rfl, Nat.le_of_ble_eq_true rfl⟩) hK hP hD hS hA [0] rfl (by decide +kernel) rfl rfl rfl 0 3 rfl rfl rfl hl.1 rfl (Nat.le_of_ble_eq_true rfl) dX3_write_18 ⟨Nat.le_of_ble_eq_true rfl, Nat.le_of_ble_eq_true rfl⟩ (fun H locs hP hD hS => ?_)
      refine lv_istore (lv' := [(4, .int 19), (0, .ref n0), (1, .int x), (2, .int y), (3, .int u)]) hx hb dX3_write_21 hl (by decide) rfl (fun ls hl => ?_)
      refine lv_aload_n hx hb dX3_write_23 rfl (lv_at hl 1 rfl) ?_
      refine va_get (D := D) (ci := 3) (v := .ref n1) (C := RX3) (T := TX3) (N := 4) hx hb hts hinX3 hown hK hP 0 rfl rfl 0 (by decide) (hts (.fieldLink RX3 9 "RibbonBalloons$Notes" "balloons" "[I") (by decide +kernel)) (fun _ h9 => h9) rfl dX3_write_24 ?_
      refine lv_iload hx hb dX3_write_27 (lv_at hl 0 rfl) ?_
      refine lv_iload_n hx hb dX3_write_29 rfl (lv_at hl 2 rfl) ?_
      refine r_iast hx hb hK hP hD hS 1 0 19 (f := shf (S 7)) (x := x) (wn := List.flatten [ntX cI n0 n1 n2 n3 (upd (shf (S 7)) 19 x) (shf (S 8)) (shf (S 9)) (S 12 8)]) rfl rfl (by omega) (by omega) rfl dX3_write_30 (fun H locs hP hD hS => ?_)
      refine lv_aload_n hx hb dX3_write_31 rfl (lv_at hl 1 rfl) ?_
      refine va_get (D := D) (ci := 3) (v := .ref n2) (C := RX3) (T := TX3) (N := 4) hx hb hts hinX3 hown hK hP 0 rfl rfl 1 (by decide) (hts (.fieldLink RX3 15 "RibbonBalloons$Notes" "hours" "[I") (by decide +kernel)) (fun _ h9 => h9) rfl dX3_write_32 ?_
      refine lv_iload hx hb dX3_write_35 (lv_at hl 0 rfl) ?_
      refine lv_iload_n hx hb dX3_write_37 rfl (lv_at hl 3 rfl) ?_
      refine r_iast hx hb hK hP hD hS 2 0 19 (f := shf (S 8)) (x := y) (wn := List.flatten [ntX cI n0 n1 n2 n3 (upd (shf (S 7)) 19 x) (upd (shf (S 8)) 19 y) (shf (S 9)) (S 12 8)]) rfl rfl (by omega) (by omega) rfl dX3_write_38 (fun H locs hP hD hS => ?_)
      refine lv_aload_n hx hb dX3_write_39 rfl (lv_at hl 1 rfl) ?_
      refine va_get (D := D) (ci := 3) (v := .ref n3) (C := RX3) (T := TX3) (N := 4) hx hb hts hinX3 hown hK hP 0 rfl rfl 2 (by decide) (hts (.fieldLink RX3 18 "RibbonBalloons$Notes" "tellings" "[I") (by decide +kernel)) (fun _ h9 => h9) rfl dX3_write_40 ?_
      refine lv_iload hx hb dX3_write_43 (lv_at hl 0 rfl) ?_
      refine lv_iload_n hx hb dX3_write_45 rfl (lv_at hl 4 rfl) ?_
      refine r_iast hx hb hK hP hD hS 3 0 19 (f := shf (S 9)) (x := u) (wn := List.flatten [ntX cI n0 n1 n2 n3 (upd (shf (S 7)) 19 x) (upd (shf (S 8)) 19 y) (upd (shf (S 9)) 19 u) (S 12 8)]) rfl rfl (by omega) (by omega) rfl dX3_write_46 (fun H locs hP hD hS => ?_)
      have eZ : S 12 8 = nI (nsz z (plc S z x y)) := by first | exact nsz_a hz (by omega) | exact nsz_b (by omega) (by omega) | exact nsz_c hz (by omega) (by omega)
      obtain ⟨hP, hD⟩ := PD_re (wn := List.flatten [ntX cI n0 n1 n2 n3 (upd (shf (S 7)) 19 x) (upd (shf (S 8)) 19 y) (upd (shf (S 9)) 19 u) (nI (nsz z (plc S z x y)))]) (by rw [eZ]) hP hD
      obtain ⟨hP, hD⟩ := PD_cg hP hD 1 (nwr (S 7) (plc S z x y) x) rfl (fun j hj => by first | exact nwr_a (by omega) j | exact nwr_b (by omega) (by omega) j | exact nwr_c (by omega) (by omega) j) (wn := List.flatten [ntX cI n0 n1 n2 n3 (nwr (S 7) (plc S z x y) x) (upd (shf (S 8)) 19 y) (upd (shf (S 9)) 19 u) (nI (nsz z (plc S z x y)))]) rfl
      obtain ⟨hP, hD⟩ := PD_cg hP hD 2 (nwr (S 8) (plc S z x y) y) rfl (fun j hj => by first | exact nwr_a (by omega) j | exact nwr_b (by omega) (by omega) j | exact nwr_c (by omega) (by omega) j) (wn := List.flatten [ntX cI n0 n1 n2 n3 (nwr (S 7) (plc S z x y) x) (nwr (S 8) (plc S z x y) y) (upd (shf (S 9)) 19 u) (nI (nsz z (plc S z x y)))]) rfl
      obtain ⟨hP, hD⟩ := PD_cg hP hD 3 (nwr (S 9) (plc S z x y) u) rfl (fun j hj => by first | exact nwr_a (by omega) j | exact nwr_b (by omega) (by omega) j | exact nwr_c (by omega) (by omega) j) (wn := List.flatten [ntX cI n0 n1 n2 n3 (nwr (S 7) (plc S z x y) x) (nwr (S 8) (plc S z x y) y) (nwr (S 9) (plc S z x y) u) (nI (nsz z (plc S z x y)))]) rfl
      exact hend _ _ _ _ hP hD hS dX3_write_47

set_option maxHeartbeats 4000000 in
set_option maxRecDepth 100000 in
theorem c_X3_tell0 (l : Launch) (D : va_G) (cI cZ cS cJ : ClassId) (n0 : Nat) (n1 : Nat) (n2 : Nat) (n3 : Nat) (S : Nat → Nat → Int32) (z : Nat) (r : Nat) (hz : S 12 8 = nI z) (hz20 : z ≤ 20) (hr : r < 2147483648) : C0 l yX3_tell wsX3_tell ({ frames := 0, cells := 0, slots := 0, locals := 0 }) D (tyL cI cZ cS cJ) [.ref n0, .int (nI r), .int 0] (List.flatten [ntX cI n0 n1 n2 n3 (S 7) (S 8) (S 9) (S 12 8)]) (some (.int (ntl S z r 0))) (List.flatten [ntX cI n0 n1 n2 n3 (S 7) (S 8) (S 9) (S 12 8)]) 0 0 := by
  refine C0_int (cc := cX3_tell) (maxL := 3) (rt := .int) (by decide) rfl (Nat.le_of_ble_eq_true rfl) (rfl) ?_
  intro p e s m below meth c A ls Q X hK hP hD hS hA hl hend
  have X : CallFix p m c cX3_tell 3 s ([.ref n0, .int (nI r), .int 0] : List Value).toArray wsX3_tell RX3 := X
  obtain ⟨hx, hb, hml, hown, hts⟩ := id X
  have hl : lv_has ls 3 [(0, .ref n0), (1, .int (nI r)), (2, .int 0)] := hl
  have hinX3 : ∀ w ∈ u_ws RX3 TX3 4, w ∈ wsX3_tell := by decide +kernel
  refine lv_iload_n hx hb dX3_tell_0 rfl (lv_at hl 1 rfl) ?_
  refine lv_aload_n hx hb dX3_tell_1 rfl (lv_at hl 0 rfl) ?_
  refine va_get (D := D) (ci := 3) (v := .int (S 12 8)) (C := RX3) (T := TX3) (N := 4) hx hb hts hinX3 hown hK hP 0 rfl rfl 3 (by decide) (hts (.fieldLink RX3 21 "RibbonBalloons$Notes" "size" "I") (by decide +kernel)) (fun _ h9 => h9) rfl dX3_tell_2 ?_
  refine lv_eqi (y := nI z) hz ?_
  refine n_lt (i := r) (j := z) (tgt := 12) hx hb (by omega) (by omega) dX3_tell_5 (by decide) (fun c5 => ?_) (fun c5 => ?_)
  · skip
    refine lv_iload_n hx hb dX3_tell_12 rfl (lv_at hl 2 rfl) ?_
    refine lv_lookup (tgt := 40) hx hb dX3_tell_13 (by decide) rfl (by decide) ?_
    refine lv_aload_n hx hb dX3_tell_40 rfl (lv_at hl 0 rfl) ?_
    refine va_get (D := D) (ci := 3) (v := .ref n1) (C := RX3) (T := TX3) (N := 4) hx hb hts hinX3 hown hK hP 0 rfl rfl 0 (by decide) (hts (.fieldLink RX3 9 "RibbonBalloons$Notes" "balloons" "[I") (by decide +kernel)) (fun _ h9 => h9) rfl dX3_tell_41 ?_
    refine lv_iload_n hx hb dX3_tell_44 rfl (lv_at hl 1 rfl) ?_
    refine r_iald hx hb hK hP 1 0 r (f := S 7) rfl rfl (by omega) (by omega) dX3_tell_45 ?_
    refine hend _ _ _ _ _ ?_ hP hD hS dX3_tell_46
    unfold ntl; first | rw [if_pos c5] | rw [if_neg (by omega)]
  · skip
    refine lv_sipush (v := (-1000)) hx hb dX3_tell_8 (by decide) ?_
    refine hend _ _ _ _ _ ?_ hP hD hS dX3_tell_11
    unfold ntl; first | rw [if_pos c5] | rw [if_neg (by omega)]

set_option maxHeartbeats 4000000 in
set_option maxRecDepth 100000 in
theorem c_X3_tell1 (l : Launch) (D : va_G) (cI cZ cS cJ : ClassId) (n0 : Nat) (n1 : Nat) (n2 : Nat) (n3 : Nat) (S : Nat → Nat → Int32) (z : Nat) (r : Nat) (hz : S 12 8 = nI z) (hz20 : z ≤ 20) (hr : r < 2147483648) : C0 l yX3_tell wsX3_tell ({ frames := 0, cells := 0, slots := 0, locals := 0 }) D (tyL cI cZ cS cJ) [.ref n0, .int (nI r), .int 1] (List.flatten [ntX cI n0 n1 n2 n3 (S 7) (S 8) (S 9) (S 12 8)]) (some (.int (ntl S z r 1))) (List.flatten [ntX cI n0 n1 n2 n3 (S 7) (S 8) (S 9) (S 12 8)]) 0 0 := by
  refine C0_int (cc := cX3_tell) (maxL := 3) (rt := .int) (by decide) rfl (Nat.le_of_ble_eq_true rfl) (rfl) ?_
  intro p e s m below meth c A ls Q X hK hP hD hS hA hl hend
  have X : CallFix p m c cX3_tell 3 s ([.ref n0, .int (nI r), .int 1] : List Value).toArray wsX3_tell RX3 := X
  obtain ⟨hx, hb, hml, hown, hts⟩ := id X
  have hl : lv_has ls 3 [(0, .ref n0), (1, .int (nI r)), (2, .int 1)] := hl
  have hinX3 : ∀ w ∈ u_ws RX3 TX3 4, w ∈ wsX3_tell := by decide +kernel
  refine lv_iload_n hx hb dX3_tell_0 rfl (lv_at hl 1 rfl) ?_
  refine lv_aload_n hx hb dX3_tell_1 rfl (lv_at hl 0 rfl) ?_
  refine va_get (D := D) (ci := 3) (v := .int (S 12 8)) (C := RX3) (T := TX3) (N := 4) hx hb hts hinX3 hown hK hP 0 rfl rfl 3 (by decide) (hts (.fieldLink RX3 21 "RibbonBalloons$Notes" "size" "I") (by decide +kernel)) (fun _ h9 => h9) rfl dX3_tell_2 ?_
  refine lv_eqi (y := nI z) hz ?_
  refine n_lt (i := r) (j := z) (tgt := 12) hx hb (by omega) (by omega) dX3_tell_5 (by decide) (fun c5 => ?_) (fun c5 => ?_)
  · skip
    refine lv_iload_n hx hb dX3_tell_12 rfl (lv_at hl 2 rfl) ?_
    refine lv_lookup (tgt := 47) hx hb dX3_tell_13 (by decide) rfl (by decide) ?_
    refine lv_aload_n hx hb dX3_tell_47 rfl (lv_at hl 0 rfl) ?_
    refine va_get (D := D) (ci := 3) (v := .ref n2) (C := RX3) (T := TX3) (N := 4) hx hb hts hinX3 hown hK hP 0 rfl rfl 1 (by decide) (hts (.fieldLink RX3 15 "RibbonBalloons$Notes" "hours" "[I") (by decide +kernel)) (fun _ h9 => h9) rfl dX3_tell_48 ?_
    refine lv_iload_n hx hb dX3_tell_51 rfl (lv_at hl 1 rfl) ?_
    refine r_iald hx hb hK hP 2 0 r (f := S 8) rfl rfl (by omega) (by omega) dX3_tell_52 ?_
    refine hend _ _ _ _ _ ?_ hP hD hS dX3_tell_53
    unfold ntl; first | rw [if_pos c5] | rw [if_neg (by omega)]
  · skip
    refine lv_sipush (v := (-1000)) hx hb dX3_tell_8 (by decide) ?_
    refine hend _ _ _ _ _ ?_ hP hD hS dX3_tell_11
    unfold ntl; first | rw [if_pos c5] | rw [if_neg (by omega)]

set_option maxHeartbeats 4000000 in
set_option maxRecDepth 100000 in
theorem c_X3_tell2 (l : Launch) (D : va_G) (cI cZ cS cJ : ClassId) (n0 : Nat) (n1 : Nat) (n2 : Nat) (n3 : Nat) (S : Nat → Nat → Int32) (z : Nat) (r : Nat) (hz : S 12 8 = nI z) (hz20 : z ≤ 20) (hr : r < 2147483648) : C0 l yX3_tell wsX3_tell ({ frames := 0, cells := 0, slots := 0, locals := 0 }) D (tyL cI cZ cS cJ) [.ref n0, .int (nI r), .int 2] (List.flatten [ntX cI n0 n1 n2 n3 (S 7) (S 8) (S 9) (S 12 8)]) (some (.int (ntl S z r 2))) (List.flatten [ntX cI n0 n1 n2 n3 (S 7) (S 8) (S 9) (S 12 8)]) 0 0 := by
  refine C0_int (cc := cX3_tell) (maxL := 3) (rt := .int) (by decide) rfl (Nat.le_of_ble_eq_true rfl) (rfl) ?_
  intro p e s m below meth c A ls Q X hK hP hD hS hA hl hend
  have X : CallFix p m c cX3_tell 3 s ([.ref n0, .int (nI r), .int 2] : List Value).toArray wsX3_tell RX3 := X
  obtain ⟨hx, hb, hml, hown, hts⟩ := id X
  have hl : lv_has ls 3 [(0, .ref n0), (1, .int (nI r)), (2, .int 2)] := hl
  have hinX3 : ∀ w ∈ u_ws RX3 TX3 4, w ∈ wsX3_tell := by decide +kernel
  refine lv_iload_n hx hb dX3_tell_0 rfl (lv_at hl 1 rfl) ?_
  refine lv_aload_n hx hb dX3_tell_1 rfl (lv_at hl 0 rfl) ?_
  refine va_get (D := D) (ci := 3) (v := .int (S 12 8)) (C := RX3) (T := TX3) (N := 4) hx hb hts hinX3 hown hK hP 0 rfl rfl 3 (by decide) (hts (.fieldLink RX3 21 "RibbonBalloons$Notes" "size" "I") (by decide +kernel)) (fun _ h9 => h9) rfl dX3_tell_2 ?_
  refine lv_eqi (y := nI z) hz ?_
  refine n_lt (i := r) (j := z) (tgt := 12) hx hb (by omega) (by omega) dX3_tell_5 (by decide) (fun c5 => ?_) (fun c5 => ?_)
  · skip
    refine lv_iload_n hx hb dX3_tell_12 rfl (lv_at hl 2 rfl) ?_
    refine lv_lookup (tgt := 54) hx hb dX3_tell_13 (by decide) rfl (by decide) ?_
    refine lv_aload_n hx hb dX3_tell_54 rfl (lv_at hl 0 rfl) ?_
    refine va_get (D := D) (ci := 3) (v := .ref n3) (C := RX3) (T := TX3) (N := 4) hx hb hts hinX3 hown hK hP 0 rfl rfl 2 (by decide) (hts (.fieldLink RX3 18 "RibbonBalloons$Notes" "tellings" "[I") (by decide +kernel)) (fun _ h9 => h9) rfl dX3_tell_55 ?_
    refine lv_iload_n hx hb dX3_tell_58 rfl (lv_at hl 1 rfl) ?_
    refine r_iald hx hb hK hP 3 0 r (f := S 9) rfl rfl (by omega) (by omega) dX3_tell_59 ?_
    refine hend _ _ _ _ _ ?_ hP hD hS dX3_tell_60
    unfold ntl; first | rw [if_pos c5] | rw [if_neg (by omega)]
  · skip
    refine lv_sipush (v := (-1000)) hx hb dX3_tell_8 (by decide) ?_
    refine hend _ _ _ _ _ ?_ hP hD hS dX3_tell_11
    unfold ntl; first | rw [if_pos c5] | rw [if_neg (by omega)]

set_option maxHeartbeats 4000000 in
set_option maxRecDepth 100000 in
theorem c_X3_copyFrom (l : Launch) (D : va_G) (cI cZ cS cJ : ClassId) (n0 : Nat) (n1 : Nat) (n2 : Nat) (n3 : Nat) (S : Nat → Nat → Int32) (m0 : Nat) (m1 : Nat) (m2 : Nat) (m3 : Nat) (T : Nat → Nat → Int32)  : C0 l yX3_copyFrom wsX3_copyFrom ({ frames := 1, cells := 0, slots := 0, locals := 18 }) D (tyL cI cZ cS cJ) [.ref n0, .ref m0] (List.flatten [ntX cI n0 n1 n2 n3 (S 7) (S 8) (S 9) (S 12 8), ntX cI m0 m1 m2 m3 (T 7) (T 8) (T 9) (T 12 8)]) none (List.flatten [ntX cI n0 n1 n2 n3 (T 7) (T 8) (T 9) (T 12 8), ntX cI m0 m1 m2 m3 (T 7) (T 8) (T 9) (T 12 8)]) 0 0 := by
  refine C0_void (cc := cX3_copyFrom) (maxL := 2) (by decide) rfl (Nat.le_of_ble_eq_true rfl) ?_
  intro p e s m below meth c A ls Q X hnm hK hP hD hS hA hl hend
  have X : CallFix p m c cX3_copyFrom 2 s ([.ref n0, .ref m0] : List Value).toArray wsX3_copyFrom RX3 := X
  obtain ⟨hx, hb, hml, hown, hts⟩ := id X
  have hl : lv_has ls 2 [(0, .ref n0), (1, .ref m0)] := hl
  have hinX3 : ∀ w ∈ u_ws RX3 TX3 4, w ∈ wsX3_copyFrom := by decide +kernel
  refine lv_aload_n hx hb dX3_copyFrom_0 rfl (lv_at hl 1 rfl) ?_
  refine va_get (D := D) (ci := 3) (v := .ref m1) (C := RX3) (T := TX3) (N := 4) hx hb hts hinX3 hown hK hP 4 rfl rfl 0 (by decide) (hts (.fieldLink RX3 9 "RibbonBalloons$Notes" "balloons" "[I") (by decide +kernel)) (fun _ h9 => h9) rfl dX3_copyFrom_1 ?_
  refine lv_iconst (v := 0) hx hb dX3_copyFrom_4 (by decide) ?_
  refine lv_aload_n hx hb dX3_copyFrom_5 rfl (lv_at hl 0 rfl) ?_
  refine va_get (D := D) (ci := 3) (v := .ref n1) (C := RX3) (T := TX3) (N := 4) hx hb hts hinX3 hown hK hP 0 rfl rfl 0 (by decide) (hts (.fieldLink RX3 9 "RibbonBalloons$Notes" "balloons" "[I") (by decide +kernel)) (fun _ h9 => h9) rfl dX3_copyFrom_6 ?_
  refine lv_iconst (v := 0) hx hb dX3_copyFrom_9 (by decide) ?_
  refine lv_bipush (v := 20) hx hb dX3_copyFrom_10 (by decide) ?_
  refine r_copyi (wn := List.flatten [ntX cI n0 n1 n2 n3 (va_cpy (T 7) (S 7) 0 0 20) (S 8) (S 9) (S 12 8), ntX cI m0 m1 m2 m3 (T 7) (T 8) (T 9) (T 12 8)]) (f := T 7) (g := S 7) hx hb (hml.trans hl.1.symm) hown (hts (.methodLink RX3 25 arraycopyName) (by decide +kernel)) (hts (.native arraycopyName) (by decide +kernel)) (hts (.static arraycopyName) (by decide +kernel)) (hts (.initialized "java/lang/System") (by decide +kernel)) hK hP hD hS 5 1 0 0 0 20 rfl rfl rfl rfl (by decide) (by omega) (by omega) (by decide) (by decide) (fun _ _ => rfl) rfl (Nat.le_of_ble_eq_true rfl) (by decide) dX3_copyFrom_12 (fun H locs hP hD hS => ?_)
  obtain ⟨hP, hD⟩ := PD_cg hP hD 1 (T 7) rfl (cpy_all) (wn := List.flatten [ntX cI n0 n1 n2 n3 (T 7) (S 8) (S 9) (S 12 8), ntX cI m0 m1 m2 m3 (T 7) (T 8) (T 9) (T 12 8)]) rfl
  refine lv_aload_n hx hb dX3_copyFrom_15 rfl (lv_at hl 1 rfl) ?_
  refine va_get (D := D) (ci := 3) (v := .ref m2) (C := RX3) (T := TX3) (N := 4) hx hb hts hinX3 hown hK hP 4 rfl rfl 1 (by decide) (hts (.fieldLink RX3 15 "RibbonBalloons$Notes" "hours" "[I") (by decide +kernel)) (fun _ h9 => h9) rfl dX3_copyFrom_16 ?_
  refine lv_iconst (v := 0) hx hb dX3_copyFrom_19 (by decide) ?_
  refine lv_aload_n hx hb dX3_copyFrom_20 rfl (lv_at hl 0 rfl) ?_
  refine va_get (D := D) (ci := 3) (v := .ref n2) (C := RX3) (T := TX3) (N := 4) hx hb hts hinX3 hown hK hP 0 rfl rfl 1 (by decide) (hts (.fieldLink RX3 15 "RibbonBalloons$Notes" "hours" "[I") (by decide +kernel)) (fun _ h9 => h9) rfl dX3_copyFrom_21 ?_
  refine lv_iconst (v := 0) hx hb dX3_copyFrom_24 (by decide) ?_
  refine lv_bipush (v := 20) hx hb dX3_copyFrom_25 (by decide) ?_
  refine r_copyi (wn := List.flatten [ntX cI n0 n1 n2 n3 (T 7) (va_cpy (T 8) (S 8) 0 0 20) (S 9) (S 12 8), ntX cI m0 m1 m2 m3 (T 7) (T 8) (T 9) (T 12 8)]) (f := T 8) (g := S 8) hx hb (hml.trans hl.1.symm) hown (hts (.methodLink RX3 25 arraycopyName) (by decide +kernel)) (hts (.native arraycopyName) (by decide +kernel)) (hts (.static arraycopyName) (by decide +kernel)) (hts (.initialized "java/lang/System") (by decide +kernel)) hK hP hD hS 6 2 0 0 0 20 rfl rfl rfl rfl (by decide) (by omega) (by omega) (by decide) (by decide) (fun _ _ => rfl) rfl (Nat.le_of_ble_eq_true rfl) (by decide) dX3_copyFrom_27 (fun H locs hP hD hS => ?_)
  obtain ⟨hP, hD⟩ := PD_cg hP hD 2 (T 8) rfl (cpy_all) (wn := List.flatten [ntX cI n0 n1 n2 n3 (T 7) (T 8) (S 9) (S 12 8), ntX cI m0 m1 m2 m3 (T 7) (T 8) (T 9) (T 12 8)]) rfl
  refine lv_aload_n hx hb dX3_copyFrom_30 rfl (lv_at hl 1 rfl) ?_
  refine va_get (D := D) (ci := 3) (v := .ref m3) (C := RX3) (T := TX3) (N := 4) hx hb hts hinX3 hown hK hP 4 rfl rfl 2 (by decide) (hts (.fieldLink RX3 18 "RibbonBalloons$Notes" "tellings" "[I") (by decide +kernel)) (fun _ h9 => h9) rfl dX3_copyFrom_31 ?_
  refine lv_iconst (v := 0) hx hb dX3_copyFrom_34 (by decide) ?_
  refine lv_aload_n hx hb dX3_copyFrom_35 rfl (lv_at hl 0 rfl) ?_
  refine va_get (D := D) (ci := 3) (v := .ref n3) (C := RX3) (T := TX3) (N := 4) hx hb hts hinX3 hown hK hP 0 rfl rfl 2 (by decide) (hts (.fieldLink RX3 18 "RibbonBalloons$Notes" "tellings" "[I") (by decide +kernel)) (fun _ h9 => h9) rfl dX3_copyFrom_36 ?_
  refine lv_iconst (v := 0) hx hb dX3_copyFrom_39 (by decide) ?_
  refine lv_bipush (v := 20) hx hb dX3_copyFrom_40 (by decide) ?_
  refine r_copyi (wn := List.flatten [ntX cI n0 n1 n2 n3 (T 7) (T 8) (va_cpy (T 9) (S 9) 0 0 20) (S 12 8), ntX cI m0 m1 m2 m3 (T 7) (T 8) (T 9) (T 12 8)]) (f := T 9) (g := S 9) hx hb (hml.trans hl.1.symm) hown (hts (.methodLink RX3 25 arraycopyName) (by decide +kernel)) (hts (.native arraycopyName) (by decide +kernel)) (hts (.static arraycopyName) (by decide +kernel)) (hts (.initialized "java/lang/System") (by decide +kernel)) hK hP hD hS 7 3 0 0 0 20 rfl rfl rfl rfl (by decide) (by omega) (by omega) (by decide) (by decide) (fun _ _ => rfl) rfl (Nat.le_of_ble_eq_true rfl) (by decide) dX3_copyFrom_42 (fun H locs hP hD hS => ?_)
  obtain ⟨hP, hD⟩ := PD_cg hP hD 3 (T 9) rfl (cpy_all) (wn := List.flatten [ntX cI n0 n1 n2 n3 (T 7) (T 8) (T 9) (S 12 8), ntX cI m0 m1 m2 m3 (T 7) (T 8) (T 9) (T 12 8)]) rfl
  refine lv_aload_n hx hb dX3_copyFrom_45 rfl (lv_at hl 0 rfl) ?_
  refine lv_aload_n hx hb dX3_copyFrom_46 rfl (lv_at hl 1 rfl) ?_
  refine va_get (D := D) (ci := 3) (v := .int (T 12 8)) (C := RX3) (T := TX3) (N := 4) hx hb hts hinX3 hown hK hP 4 rfl rfl 3 (by decide) (hts (.fieldLink RX3 21 "RibbonBalloons$Notes" "size" "I") (by decide +kernel)) (fun _ h9 => h9) rfl dX3_copyFrom_47 ?_
  refine va_put (D := D) (ci := 3) (v := .int (T 12 8)) (ty := .int) (C := RX3) (T := TX3) (N := 4) hx hb hts hinX3 tyX3 tyX3_ok nmX3 hown hK hP hD hS 0 rfl rfl 3 (by decide) (hts (.fieldLink RX3 21 "RibbonBalloons$Notes" "size" "I") (by decide +kernel)) (fun _ h9 => h9) rfl (by decide +kernel) rfl rfl (Nat.le_of_ble_eq_true rfl) dX3_copyFrom_50 (fun H locs hP hD hS => ?_)
  have hP : va_P D vwCl (List.flatten [ntX cI n0 n1 n2 n3 (T 7) (T 8) (T 9) (T 12 8), ntX cI m0 m1 m2 m3 (T 7) (T 8) (T 9) (T 12 8)]) _ := hP
  have hD : va_D A (List.flatten [ntX cI n0 n1 n2 n3 (T 7) (T 8) (T 9) (T 12 8), ntX cI m0 m1 m2 m3 (T 7) (T 8) (T 9) (T 12 8)]) := hD
  exact hend _ _ _ _ hP hD hS dX3_copyFrom_53

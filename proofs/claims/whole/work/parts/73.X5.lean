set_option maxHeartbeats 4000000 in
set_option maxRecDepth 100000 in
theorem c_X5_add (l : Launch) (D : va_G) (cI cZ cS cJ : ClassId) (t0 : Nat) (t1 : Nat) (T : Nat → Int32) (n : Int32) (z : Nat) (x : Int32) (hz : n = nI z) (hz60 : z ≤ 60) (h60 : z < 60) : C0 l yX5_add wsX5_add ({ frames := 0, cells := 0, slots := 0, locals := 0 }) D (tyL cI cZ cS cJ) [.ref t0, .int x] (List.flatten [txC cI t0 t1 T n]) none (List.flatten [txC cI t0 t1 (upd T z x) (nI (z + 1))]) 0 0 := by
  refine C0_void (cc := cX5_add) (maxL := 2) (by decide) rfl (Nat.le_of_ble_eq_true rfl) ?_
  intro p e s m below meth c A ls Q X hnm hK hP hD hS hA hl hend
  have X : CallFix p m c cX5_add 2 s ([.ref t0, .int x] : List Value).toArray wsX5_add RX5 := X
  obtain ⟨hx, hb, hml, hown, hts⟩ := id X
  have hl : lv_has ls 2 [(0, .ref t0), (1, .int x)] := hl
  have hinX5 : ∀ w ∈ u_ws RX5 TX5 2, w ∈ wsX5_add := by decide +kernel
  refine lv_aload_n hx hb dX5_add_0 rfl (lv_at hl 0 rfl) ?_
  refine va_get (D := D) (ci := 5) (v := .int n) (C := RX5) (T := TX5) (N := 2) hx hb hts hinX5 hown hK hP 0 rfl rfl 1 (by decide) (hts (.fieldLink RX5 15 "RibbonBalloons$Text" "length" "I") (by decide +kernel)) (fun _ h9 => h9) rfl dX5_add_1 ?_
  refine lv_eqi (y := nI z) hz ?_
  refine lv_bipush (v := 60) hx hb dX5_add_4 (by decide) ?_
  refine n_ge (i := z) (j := 60) (tgt := 29) hx hb (by omega) (by omega) dX5_add_6 (by decide) (fun h => absurd h (by omega)) (fun _ => ?_)
  refine lv_aload_n hx hb dX5_add_9 rfl (lv_at hl 0 rfl) ?_
  refine va_get (D := D) (ci := 5) (v := .ref t1) (C := RX5) (T := TX5) (N := 2) hx hb hts hinX5 hown hK hP 0 rfl rfl 0 (by decide) (hts (.fieldLink RX5 9 "RibbonBalloons$Text" "codes" "[I") (by decide +kernel)) (fun _ h9 => h9) rfl dX5_add_10 ?_
  refine lv_aload_n hx hb dX5_add_13 rfl (lv_at hl 0 rfl) ?_
  refine va_get (D := D) (ci := 5) (v := .int n) (C := RX5) (T := TX5) (N := 2) hx hb hts hinX5 hown hK hP 0 rfl rfl 1 (by decide) (hts (.fieldLink RX5 15 "RibbonBalloons$Text" "length" "I") (by decide +kernel)) (fun _ h9 => h9) rfl dX5_add_14 ?_
  refine lv_eqi (y := nI z) hz ?_
  refine lv_iload_n hx hb dX5_add_17 rfl (lv_at hl 1 rfl) ?_
  refine r_iast hx hb hK hP hD hS 1 0 z (f := T) (x := x) (wn := List.flatten [txC cI t0 t1 (upd T z x) n]) rfl rfl (by omega) (by omega) rfl dX5_add_18 (fun H locs hP hD hS => ?_)
  refine lv_aload_n hx hb dX5_add_19 rfl (lv_at hl 0 rfl) ?_
  refine lv_dup hx hb dX5_add_20 rfl ?_
  refine va_get (D := D) (ci := 5) (v := .int n) (C := RX5) (T := TX5) (N := 2) hx hb hts hinX5 hown hK hP 0 rfl rfl 1 (by decide) (hts (.fieldLink RX5 15 "RibbonBalloons$Text" "length" "I") (by decide +kernel)) (fun _ h9 => h9) rfl dX5_add_21 ?_
  refine lv_eqi (y := nI z) hz ?_
  refine lv_iconst (v := 1) hx hb dX5_add_24 (by decide) ?_
  refine lv_iadd hx hb dX5_add_25 ?_
  refine lv_eqi (y := nI (z + 1)) (nI_add _ _) ?_
  refine va_put (D := D) (ci := 5) (v := .int (nI (z + 1))) (ty := .int) (C := RX5) (T := TX5) (N := 2) hx hb hts hinX5 tyX5 tyX5_ok nmX5 hown hK hP hD hS 0 rfl rfl 1 (by decide) (hts (.fieldLink RX5 15 "RibbonBalloons$Text" "length" "I") (by decide +kernel)) (fun _ h9 => h9) rfl (by decide +kernel) rfl rfl (Nat.le_of_ble_eq_true rfl) dX5_add_26 (fun H locs hP hD hS => ?_)
  have hP : va_P D vwCl (List.flatten [txC cI t0 t1 (upd T z x) (nI (z + 1))]) _ := hP
  have hD : va_D A (List.flatten [txC cI t0 t1 (upd T z x) (nI (z + 1))]) := hD
  exact hend _ _ _ _ hP hD hS dX5_add_29

set_option maxHeartbeats 4000000 in
set_option maxRecDepth 100000 in
theorem c_X5_code (l : Launch) (D : va_G) (cI cZ cS cJ : ClassId) (t0 : Nat) (t1 : Nat) (T : Nat → Int32) (n : Int32) (z : Nat) (i : Nat) (hz : n = nI z) (hz60 : z ≤ 60) (hi : i < 2147483648) : C0 l yX5_code wsX5_code ({ frames := 0, cells := 0, slots := 0, locals := 0 }) D (tyL cI cZ cS cJ) [.ref t0, .int (nI i)] (List.flatten [txC cI t0 t1 T n]) (some (.int (cod T z i))) (List.flatten [txC cI t0 t1 T n]) 0 0 := by
  refine C0_int (cc := cX5_code) (maxL := 2) (rt := .int) (by decide) rfl (Nat.le_of_ble_eq_true rfl) (rfl) ?_
  intro p e s m below meth c A ls Q X hK hP hD hS hA hl hend
  have X : CallFix p m c cX5_code 2 s ([.ref t0, .int (nI i)] : List Value).toArray wsX5_code RX5 := X
  obtain ⟨hx, hb, hml, hown, hts⟩ := id X
  have hl : lv_has ls 2 [(0, .ref t0), (1, .int (nI i))] := hl
  have hinX5 : ∀ w ∈ u_ws RX5 TX5 2, w ∈ wsX5_code := by decide +kernel
  refine lv_iload_n hx hb dX5_code_0 rfl (lv_at hl 1 rfl) ?_
  refine n_iflt (i := i) (tgt := 21) hx hb (by omega) dX5_code_1 (by decide) ?_
  refine lv_iload_n hx hb dX5_code_4 rfl (lv_at hl 1 rfl) ?_
  refine lv_aload_n hx hb dX5_code_5 rfl (lv_at hl 0 rfl) ?_
  refine va_get (D := D) (ci := 5) (v := .int n) (C := RX5) (T := TX5) (N := 2) hx hb hts hinX5 hown hK hP 0 rfl rfl 1 (by decide) (hts (.fieldLink RX5 15 "RibbonBalloons$Text" "length" "I") (by decide +kernel)) (fun _ h9 => h9) rfl dX5_code_6 ?_
  refine lv_eqi (y := nI z) hz ?_
  refine n_ge (i := i) (j := z) (tgt := 21) hx hb (by omega) (by omega) dX5_code_9 (by decide) (fun c9 => ?_) (fun c9 => ?_)
  · skip
    refine lv_iconst (v := 0) hx hb dX5_code_21 (by decide) ?_
    refine hend _ _ _ _ _ ?_ hP hD hS dX5_code_22
    unfold cod; first | rw [if_pos c9] | rw [if_neg (by omega)]
  · skip
    refine lv_aload_n hx hb dX5_code_12 rfl (lv_at hl 0 rfl) ?_
    refine va_get (D := D) (ci := 5) (v := .ref t1) (C := RX5) (T := TX5) (N := 2) hx hb hts hinX5 hown hK hP 0 rfl rfl 0 (by decide) (hts (.fieldLink RX5 9 "RibbonBalloons$Text" "codes" "[I") (by decide +kernel)) (fun _ h9 => h9) rfl dX5_code_13 ?_
    refine lv_iload_n hx hb dX5_code_16 rfl (lv_at hl 1 rfl) ?_
    refine r_iald hx hb hK hP 1 0 i (f := T) rfl rfl (by omega) (by omega) dX5_code_17 ?_
    refine lv_goto (tgt := 22) hx hb dX5_code_18 (by decide) ?_
    refine hend _ _ _ _ _ ?_ hP hD hS dX5_code_22
    unfold cod; first | rw [if_pos c9] | rw [if_neg (by omega)]

set_option maxHeartbeats 4000000 in
set_option maxRecDepth 100000 in
theorem c_X5_readLetter (l : Launch) (D : va_G) (cI cZ cS cJ : ClassId) (x : Int32) : C0 l yX5_readLetter wsX5_readLetter ({ frames := 0, cells := 0, slots := 0, locals := 0 }) D (tyL cI cZ cS cJ) [.int x] (List.flatten []) (some (.int (nI (rdL x)))) (List.flatten []) 0 0 := by
  refine C0_int (cc := cX5_readLetter) (maxL := 1) (rt := .int) (by decide) rfl (Nat.le_of_ble_eq_true rfl) rfl ?_
  intro p e s m below meth c A ls Q X hK hP hD hS hA hl hend
  obtain ⟨hx, hb, hml, hown, hts⟩ := id X
  have hl : lv_has ls 1 [(0, .int x)] := hl
  refine lv_iload_n hx hb dX5_readLetter_0 rfl (lv_at hl 0 rfl) ?_
  by_cases q1 : x.toInt < 99 ∨ (118 : Int) < x.toInt
  · refine lv_tableOut (tgt := 104) hx hb dX5_readLetter_1 q1 (by decide) ?_
    refine lv_iconst (v := 0) hx hb dX5_readLetter_104 (by decide) ?_
    refine hend _ _ _ _ _ ?_ hP hD hS dX5_readLetter_105
    exact rdL_out q1
  · obtain ⟨q2, q3⟩ := not_or.mp q1
    obtain ⟨k, hk, ek⟩ := tsp (lo := 99) (n := 19) q2 q3
    rcases (show k = 0 ∨ k = 1 ∨ k = 2 ∨ k = 3 ∨ k = 4 ∨ k = 5 ∨ k = 6 ∨ k = 7 ∨ k = 8 ∨ k = 9 ∨ k = 10 ∨ k = 11 ∨ k = 12 ∨ k = 13 ∨ k = 14 ∨ k = 15 ∨ k = 16 ∨ k = 17 ∨ k = 18 ∨ k = 19 by omega) with rfl | rfl | rfl | rfl | rfl | rfl | rfl | rfl | rfl | rfl | rfl | rfl | rfl | rfl | rfl | rfl | rfl | rfl | rfl | rfl
    · obtain rfl : x = 99 := i32e ek
      refine lv_tableIn (tgt := 100) hx hb dX5_readLetter_1 q2 q3 rfl (by decide) ?_
      refine lv_iconst (v := 4) hx hb dX5_readLetter_100 (by decide) ?_
      exact hend _ _ _ _ _ (by decide) hP hD hS dX5_readLetter_101
    · obtain rfl : x = 100 := i32e ek
      refine lv_tableIn (tgt := 98) hx hb dX5_readLetter_1 q2 q3 rfl (by decide) ?_
      refine lv_iconst (v := 3) hx hb dX5_readLetter_98 (by decide) ?_
      exact hend _ _ _ _ _ (by decide) hP hD hS dX5_readLetter_99
    · obtain rfl : x = 101 := i32e ek
      refine lv_tableIn (tgt := 104) hx hb dX5_readLetter_1 q2 q3 rfl (by decide) ?_
      refine lv_iconst (v := 0) hx hb dX5_readLetter_104 (by decide) ?_
      exact hend _ _ _ _ _ (by decide) hP hD hS dX5_readLetter_105
    · obtain rfl : x = 102 := i32e ek
      refine lv_tableIn (tgt := 96) hx hb dX5_readLetter_1 q2 q3 rfl (by decide) ?_
      refine lv_iconst (v := 2) hx hb dX5_readLetter_96 (by decide) ?_
      exact hend _ _ _ _ _ (by decide) hP hD hS dX5_readLetter_97
    · obtain rfl : x = 103 := i32e ek
      refine lv_tableIn (tgt := 104) hx hb dX5_readLetter_1 q2 q3 rfl (by decide) ?_
      refine lv_iconst (v := 0) hx hb dX5_readLetter_104 (by decide) ?_
      exact hend _ _ _ _ _ (by decide) hP hD hS dX5_readLetter_105
    · obtain rfl : x = 104 := i32e ek
      refine lv_tableIn (tgt := 102) hx hb dX5_readLetter_1 q2 q3 rfl (by decide) ?_
      refine lv_iconst (v := 5) hx hb dX5_readLetter_102 (by decide) ?_
      exact hend _ _ _ _ _ (by decide) hP hD hS dX5_readLetter_103
    · obtain rfl : x = 105 := i32e ek
      refine lv_tableIn (tgt := 104) hx hb dX5_readLetter_1 q2 q3 rfl (by decide) ?_
      refine lv_iconst (v := 0) hx hb dX5_readLetter_104 (by decide) ?_
      exact hend _ _ _ _ _ (by decide) hP hD hS dX5_readLetter_105
    · obtain rfl : x = 106 := i32e ek
      refine lv_tableIn (tgt := 104) hx hb dX5_readLetter_1 q2 q3 rfl (by decide) ?_
      refine lv_iconst (v := 0) hx hb dX5_readLetter_104 (by decide) ?_
      exact hend _ _ _ _ _ (by decide) hP hD hS dX5_readLetter_105
    · obtain rfl : x = 107 := i32e ek
      refine lv_tableIn (tgt := 104) hx hb dX5_readLetter_1 q2 q3 rfl (by decide) ?_
      refine lv_iconst (v := 0) hx hb dX5_readLetter_104 (by decide) ?_
      exact hend _ _ _ _ _ (by decide) hP hD hS dX5_readLetter_105
    · obtain rfl : x = 108 := i32e ek
      refine lv_tableIn (tgt := 104) hx hb dX5_readLetter_1 q2 q3 rfl (by decide) ?_
      refine lv_iconst (v := 0) hx hb dX5_readLetter_104 (by decide) ?_
      exact hend _ _ _ _ _ (by decide) hP hD hS dX5_readLetter_105
    · obtain rfl : x = 109 := i32e ek
      refine lv_tableIn (tgt := 104) hx hb dX5_readLetter_1 q2 q3 rfl (by decide) ?_
      refine lv_iconst (v := 0) hx hb dX5_readLetter_104 (by decide) ?_
      exact hend _ _ _ _ _ (by decide) hP hD hS dX5_readLetter_105
    · obtain rfl : x = 110 := i32e ek
      refine lv_tableIn (tgt := 98) hx hb dX5_readLetter_1 q2 q3 rfl (by decide) ?_
      refine lv_iconst (v := 3) hx hb dX5_readLetter_98 (by decide) ?_
      exact hend _ _ _ _ _ (by decide) hP hD hS dX5_readLetter_99
    · obtain rfl : x = 111 := i32e ek
      refine lv_tableIn (tgt := 104) hx hb dX5_readLetter_1 q2 q3 rfl (by decide) ?_
      refine lv_iconst (v := 0) hx hb dX5_readLetter_104 (by decide) ?_
      exact hend _ _ _ _ _ (by decide) hP hD hS dX5_readLetter_105
    · obtain rfl : x = 112 := i32e ek
      refine lv_tableIn (tgt := 98) hx hb dX5_readLetter_1 q2 q3 rfl (by decide) ?_
      refine lv_iconst (v := 3) hx hb dX5_readLetter_98 (by decide) ?_
      exact hend _ _ _ _ _ (by decide) hP hD hS dX5_readLetter_99
    · obtain rfl : x = 113 := i32e ek
      refine lv_tableIn (tgt := 104) hx hb dX5_readLetter_1 q2 q3 rfl (by decide) ?_
      refine lv_iconst (v := 0) hx hb dX5_readLetter_104 (by decide) ?_
      exact hend _ _ _ _ _ (by decide) hP hD hS dX5_readLetter_105
    · obtain rfl : x = 114 := i32e ek
      refine lv_tableIn (tgt := 104) hx hb dX5_readLetter_1 q2 q3 rfl (by decide) ?_
      refine lv_iconst (v := 0) hx hb dX5_readLetter_104 (by decide) ?_
      exact hend _ _ _ _ _ (by decide) hP hD hS dX5_readLetter_105
    · obtain rfl : x = 115 := i32e ek
      refine lv_tableIn (tgt := 104) hx hb dX5_readLetter_1 q2 q3 rfl (by decide) ?_
      refine lv_iconst (v := 0) hx hb dX5_readLetter_104 (by decide) ?_
      exact hend _ _ _ _ _ (by decide) hP hD hS dX5_readLetter_105
    · obtain rfl : x = 116 := i32e ek
      refine lv_tableIn (tgt := 104) hx hb dX5_readLetter_1 q2 q3 rfl (by decide) ?_
      refine lv_iconst (v := 0) hx hb dX5_readLetter_104 (by decide) ?_
      exact hend _ _ _ _ _ (by decide) hP hD hS dX5_readLetter_105
    · obtain rfl : x = 117 := i32e ek
      refine lv_tableIn (tgt := 104) hx hb dX5_readLetter_1 q2 q3 rfl (by decide) ?_
      refine lv_iconst (v := 0) hx hb dX5_readLetter_104 (by decide) ?_
      exact hend _ _ _ _ _ (by decide) hP hD hS dX5_readLetter_105
    · obtain rfl : x = 118 := i32e ek
      refine lv_tableIn (tgt := 96) hx hb dX5_readLetter_1 q2 q3 rfl (by decide) ?_
      refine lv_iconst (v := 2) hx hb dX5_readLetter_96 (by decide) ?_
      exact hend _ _ _ _ _ (by decide) hP hD hS dX5_readLetter_97

set_option maxHeartbeats 4000000 in
set_option maxRecDepth 100000 in
theorem c_X5_readOn0 (l : Launch) (D : va_G) (cI cZ cS cJ : ClassId) (x : Int32)  : C0 l yX5_readOn wsX5_readOn ({ frames := 1, cells := 0, slots := 0, locals := 20 }) D (tyL cI cZ cS cJ) [.int 0, .int x] (List.flatten []) (some (.int (nI (rdO 0 x)))) (List.flatten []) 0 0 := by
  refine C0_int (cc := cX5_readOn) (maxL := 2) (rt := .int) (by decide) rfl (Nat.le_of_ble_eq_true rfl) (rfl) ?_
  intro p e s m below meth c A ls Q X hK hP hD hS hA hl hend
  have X : CallFix p m c cX5_readOn 2 s ([.int 0, .int x] : List Value).toArray wsX5_readOn RX5 := X
  obtain ⟨hx, hb, hml, hown, hts⟩ := id X
  have hl : lv_has ls 2 [(0, .int 0), (1, .int x)] := hl
  refine lv_iload_n hx hb dX5_readOn_0 rfl (lv_at hl 0 rfl) ?_
  refine lv_tableOut (tgt := 163) hx hb dX5_readOn_1 (by decide) (by decide) ?_
  refine lv_iconst (v := 0) hx hb dX5_readOn_163 (by decide) ?_
  refine hend _ _ _ _ _ ?_ hP hD hS dX5_readOn_164
  exact rfl

set_option maxHeartbeats 4000000 in
set_option maxRecDepth 100000 in
theorem c_X5_readOn1 (l : Launch) (D : va_G) (cI cZ cS cJ : ClassId) (x : Int32)  : C0 l yX5_readOn wsX5_readOn ({ frames := 1, cells := 0, slots := 0, locals := 20 }) D (tyL cI cZ cS cJ) [.int 1, .int x] (List.flatten []) (some (.int (nI (rdO 1 x)))) (List.flatten []) 0 0 := by
  refine C0_int (cc := cX5_readOn) (maxL := 2) (rt := .int) (by decide) rfl (Nat.le_of_ble_eq_true rfl) (rfl) ?_
  intro p e s m below meth c A ls Q X hK hP hD hS hA hl hend
  have X : CallFix p m c cX5_readOn 2 s ([.int 1, .int x] : List Value).toArray wsX5_readOn RX5 := X
  obtain ⟨hx, hb, hml, hown, hts⟩ := id X
  have hl : lv_has ls 2 [(0, .int 1), (1, .int x)] := hl
  refine lv_iload_n hx hb dX5_readOn_0 rfl (lv_at hl 0 rfl) ?_
  refine lv_tableIn (tgt := 44) hx hb dX5_readOn_1 (by decide) (by decide) rfl (by decide) ?_
  refine lv_iload_n hx hb dX5_readOn_44 rfl (lv_at hl 1 rfl) ?_
  refine kcallS (As := [.int x]) (rest := []) (Wn := []) X (c_X5_readLetter l D cI cZ cS cJ x) (va_cwS 1 hts gX5_readOn_X5_readLetter rfl rfl rfl (by decide +kernel) ⟨Nat.le_of_ble_eq_true rfl, Nat.le_of_ble_eq_true rfl⟩) hK hP hD hS hA [] rfl (by decide +kernel) rfl rfl rfl rfl hl.1 rfl (Nat.le_of_ble_eq_true rfl) dX5_readOn_45 ⟨Nat.le_of_ble_eq_true rfl, Nat.le_of_ble_eq_true rfl⟩ (fun H locs hP hD hS => ?_)
  refine hend _ _ _ _ _ ?_ hP hD hS dX5_readOn_48
  exact rfl

set_option maxHeartbeats 4000000 in
set_option maxRecDepth 100000 in
theorem c_X5_readOn2 (l : Launch) (D : va_G) (cI cZ cS cJ : ClassId) (x : Int32)  : C0 l yX5_readOn wsX5_readOn ({ frames := 1, cells := 0, slots := 0, locals := 20 }) D (tyL cI cZ cS cJ) [.int 2, .int x] (List.flatten []) (some (.int (nI (rdO 2 x)))) (List.flatten []) 0 0 := by
  refine C0_int (cc := cX5_readOn) (maxL := 2) (rt := .int) (by decide) rfl (Nat.le_of_ble_eq_true rfl) (rfl) ?_
  intro p e s m below meth c A ls Q X hK hP hD hS hA hl hend
  have X : CallFix p m c cX5_readOn 2 s ([.int 2, .int x] : List Value).toArray wsX5_readOn RX5 := X
  obtain ⟨hx, hb, hml, hown, hts⟩ := id X
  have hl : lv_has ls 2 [(0, .int 2), (1, .int x)] := hl
  refine lv_iload_n hx hb dX5_readOn_0 rfl (lv_at hl 0 rfl) ?_
  refine lv_tableIn (tgt := 49) hx hb dX5_readOn_1 (by decide) (by decide) rfl (by decide) ?_
  refine lv_iload_n hx hb dX5_readOn_49 rfl (lv_at hl 1 rfl) ?_
  refine lv_bipush (v := 48) hx hb dX5_readOn_50 (by decide) ?_
  refine lv_icmp_lt (tgt := 65) hx hb dX5_readOn_52 (by decide) (fun c52 => ?_) (fun c52 => ?_)
  · skip
    refine lv_iconst (v := 0) hx hb dX5_readOn_65 (by decide) ?_
    refine hend _ _ _ _ _ ?_ hP hD hS dX5_readOn_66
    rw [rdO_2]; first | (rw [if_pos (and_i c52 c58)]; rfl) | (rw [if_neg (and_1 c52)]; rfl) | (rw [if_neg (and_2 c58)]; rfl)
  · skip
    refine lv_iload_n hx hb dX5_readOn_55 rfl (lv_at hl 1 rfl) ?_
    refine lv_bipush (v := 55) hx hb dX5_readOn_56 (by decide) ?_
    refine lv_icmp_gt (tgt := 65) hx hb dX5_readOn_58 (by decide) (fun c58 => ?_) (fun c58 => ?_)
    · skip
      refine lv_iconst (v := 0) hx hb dX5_readOn_65 (by decide) ?_
      refine hend _ _ _ _ _ ?_ hP hD hS dX5_readOn_66
      rw [rdO_2]; first | (rw [if_pos (and_i c52 c58)]; rfl) | (rw [if_neg (and_1 c52)]; rfl) | (rw [if_neg (and_2 c58)]; rfl)
    · skip
      refine lv_iconst (v := 5) hx hb dX5_readOn_61 (by decide) ?_
      refine lv_goto (tgt := 66) hx hb dX5_readOn_62 (by decide) ?_
      refine hend _ _ _ _ _ ?_ hP hD hS dX5_readOn_66
      rw [rdO_2]; first | (rw [if_pos (and_i c52 c58)]; rfl) | (rw [if_neg (and_1 c52)]; rfl) | (rw [if_neg (and_2 c58)]; rfl)

set_option maxHeartbeats 4000000 in
set_option maxRecDepth 100000 in
theorem c_X5_readOn3 (l : Launch) (D : va_G) (cI cZ cS cJ : ClassId) (x : Int32)  : C0 l yX5_readOn wsX5_readOn ({ frames := 1, cells := 0, slots := 0, locals := 20 }) D (tyL cI cZ cS cJ) [.int 3, .int x] (List.flatten []) (some (.int (nI (rdO 3 x)))) (List.flatten []) 0 0 := by
  refine C0_int (cc := cX5_readOn) (maxL := 2) (rt := .int) (by decide) rfl (Nat.le_of_ble_eq_true rfl) (rfl) ?_
  intro p e s m below meth c A ls Q X hK hP hD hS hA hl hend
  have X : CallFix p m c cX5_readOn 2 s ([.int 3, .int x] : List Value).toArray wsX5_readOn RX5 := X
  obtain ⟨hx, hb, hml, hown, hts⟩ := id X
  have hl : lv_has ls 2 [(0, .int 3), (1, .int x)] := hl
  refine lv_iload_n hx hb dX5_readOn_0 rfl (lv_at hl 0 rfl) ?_
  refine lv_tableIn (tgt := 67) hx hb dX5_readOn_1 (by decide) (by decide) rfl (by decide) ?_
  refine lv_iload_n hx hb dX5_readOn_67 rfl (lv_at hl 1 rfl) ?_
  refine lv_bipush (v := 48) hx hb dX5_readOn_68 (by decide) ?_
  refine lv_icmp_lt (tgt := 84) hx hb dX5_readOn_70 (by decide) (fun c70 => ?_) (fun c70 => ?_)
  · skip
    refine lv_iconst (v := 0) hx hb dX5_readOn_84 (by decide) ?_
    refine hend _ _ _ _ _ ?_ hP hD hS dX5_readOn_85
    rw [rdO_3]; first | (rw [if_pos (and_i c70 c76)]; rfl) | (rw [if_neg (and_1 c70)]; rfl) | (rw [if_neg (and_2 c76)]; rfl)
  · skip
    refine lv_iload_n hx hb dX5_readOn_73 rfl (lv_at hl 1 rfl) ?_
    refine lv_bipush (v := 55) hx hb dX5_readOn_74 (by decide) ?_
    refine lv_icmp_gt (tgt := 84) hx hb dX5_readOn_76 (by decide) (fun c76 => ?_) (fun c76 => ?_)
    · skip
      refine lv_iconst (v := 0) hx hb dX5_readOn_84 (by decide) ?_
      refine hend _ _ _ _ _ ?_ hP hD hS dX5_readOn_85
      rw [rdO_3]; first | (rw [if_pos (and_i c70 c76)]; rfl) | (rw [if_neg (and_1 c70)]; rfl) | (rw [if_neg (and_2 c76)]; rfl)
    · skip
      refine lv_bipush (v := 7) hx hb dX5_readOn_79 (by decide) ?_
      refine lv_goto (tgt := 85) hx hb dX5_readOn_81 (by decide) ?_
      refine hend _ _ _ _ _ ?_ hP hD hS dX5_readOn_85
      rw [rdO_3]; first | (rw [if_pos (and_i c70 c76)]; rfl) | (rw [if_neg (and_1 c70)]; rfl) | (rw [if_neg (and_2 c76)]; rfl)

set_option maxHeartbeats 4000000 in
set_option maxRecDepth 100000 in
theorem c_X5_readOn4 (l : Launch) (D : va_G) (cI cZ cS cJ : ClassId) (x : Int32)  : C0 l yX5_readOn wsX5_readOn ({ frames := 1, cells := 0, slots := 0, locals := 20 }) D (tyL cI cZ cS cJ) [.int 4, .int x] (List.flatten []) (some (.int (nI (rdO 4 x)))) (List.flatten []) 0 0 := by
  refine C0_int (cc := cX5_readOn) (maxL := 2) (rt := .int) (by decide) rfl (Nat.le_of_ble_eq_true rfl) (rfl) ?_
  intro p e s m below meth c A ls Q X hK hP hD hS hA hl hend
  have X : CallFix p m c cX5_readOn 2 s ([.int 4, .int x] : List Value).toArray wsX5_readOn RX5 := X
  obtain ⟨hx, hb, hml, hown, hts⟩ := id X
  have hl : lv_has ls 2 [(0, .int 4), (1, .int x)] := hl
  refine lv_iload_n hx hb dX5_readOn_0 rfl (lv_at hl 0 rfl) ?_
  refine lv_tableIn (tgt := 86) hx hb dX5_readOn_1 (by decide) (by decide) rfl (by decide) ?_
  refine lv_iload_n hx hb dX5_readOn_86 rfl (lv_at hl 1 rfl) ?_
  refine lv_bipush (v := 48) hx hb dX5_readOn_87 (by decide) ?_
  refine lv_icmp_lt (tgt := 103) hx hb dX5_readOn_89 (by decide) (fun c89 => ?_) (fun c89 => ?_)
  · skip
    refine lv_iconst (v := 0) hx hb dX5_readOn_103 (by decide) ?_
    refine hend _ _ _ _ _ ?_ hP hD hS dX5_readOn_104
    rw [rdO_4]; first | (rw [if_pos (and_i c89 c95)]; rfl) | (rw [if_neg (and_1 c89)]; rfl) | (rw [if_neg (and_2 c95)]; rfl)
  · skip
    refine lv_iload_n hx hb dX5_readOn_92 rfl (lv_at hl 1 rfl) ?_
    refine lv_bipush (v := 54) hx hb dX5_readOn_93 (by decide) ?_
    refine lv_icmp_gt (tgt := 103) hx hb dX5_readOn_95 (by decide) (fun c95 => ?_) (fun c95 => ?_)
    · skip
      refine lv_iconst (v := 0) hx hb dX5_readOn_103 (by decide) ?_
      refine hend _ _ _ _ _ ?_ hP hD hS dX5_readOn_104
      rw [rdO_4]; first | (rw [if_pos (and_i c89 c95)]; rfl) | (rw [if_neg (and_1 c89)]; rfl) | (rw [if_neg (and_2 c95)]; rfl)
    · skip
      refine lv_bipush (v := 7) hx hb dX5_readOn_98 (by decide) ?_
      refine lv_goto (tgt := 104) hx hb dX5_readOn_100 (by decide) ?_
      refine hend _ _ _ _ _ ?_ hP hD hS dX5_readOn_104
      rw [rdO_4]; first | (rw [if_pos (and_i c89 c95)]; rfl) | (rw [if_neg (and_1 c89)]; rfl) | (rw [if_neg (and_2 c95)]; rfl)

set_option maxHeartbeats 4000000 in
set_option maxRecDepth 100000 in
theorem c_X5_readOn5 (l : Launch) (D : va_G) (cI cZ cS cJ : ClassId) (x : Int32)  : C0 l yX5_readOn wsX5_readOn ({ frames := 1, cells := 0, slots := 0, locals := 20 }) D (tyL cI cZ cS cJ) [.int 5, .int x] (List.flatten []) (some (.int (nI (rdO 5 x)))) (List.flatten []) 0 0 := by
  refine C0_int (cc := cX5_readOn) (maxL := 2) (rt := .int) (by decide) rfl (Nat.le_of_ble_eq_true rfl) (rfl) ?_
  intro p e s m below meth c A ls Q X hK hP hD hS hA hl hend
  have X : CallFix p m c cX5_readOn 2 s ([.int 5, .int x] : List Value).toArray wsX5_readOn RX5 := X
  obtain ⟨hx, hb, hml, hown, hts⟩ := id X
  have hl : lv_has ls 2 [(0, .int 5), (1, .int x)] := hl
  refine lv_iload_n hx hb dX5_readOn_0 rfl (lv_at hl 0 rfl) ?_
  refine lv_tableIn (tgt := 105) hx hb dX5_readOn_1 (by decide) (by decide) rfl (by decide) ?_
  refine lv_iload_n hx hb dX5_readOn_105 rfl (lv_at hl 1 rfl) ?_
  refine lv_bipush (v := 49) hx hb dX5_readOn_106 (by decide) ?_
  refine lv_icmp_lt (tgt := 122) hx hb dX5_readOn_108 (by decide) (fun c108 => ?_) (fun c108 => ?_)
  · skip
    refine lv_iconst (v := 0) hx hb dX5_readOn_122 (by decide) ?_
    refine hend _ _ _ _ _ ?_ hP hD hS dX5_readOn_123
    rw [rdO_5]; first | (rw [if_pos (and_i c108 c114)]; rfl) | (rw [if_neg (and_1 c108)]; rfl) | (rw [if_neg (and_2 c114)]; rfl)
  · skip
    refine lv_iload_n hx hb dX5_readOn_111 rfl (lv_at hl 1 rfl) ?_
    refine lv_bipush (v := 57) hx hb dX5_readOn_112 (by decide) ?_
    refine lv_icmp_gt (tgt := 122) hx hb dX5_readOn_114 (by decide) (fun c114 => ?_) (fun c114 => ?_)
    · skip
      refine lv_iconst (v := 0) hx hb dX5_readOn_122 (by decide) ?_
      refine hend _ _ _ _ _ ?_ hP hD hS dX5_readOn_123
      rw [rdO_5]; first | (rw [if_pos (and_i c108 c114)]; rfl) | (rw [if_neg (and_1 c108)]; rfl) | (rw [if_neg (and_2 c114)]; rfl)
    · skip
      refine lv_bipush (v := 6) hx hb dX5_readOn_117 (by decide) ?_
      refine lv_goto (tgt := 123) hx hb dX5_readOn_119 (by decide) ?_
      refine hend _ _ _ _ _ ?_ hP hD hS dX5_readOn_123
      rw [rdO_5]; first | (rw [if_pos (and_i c108 c114)]; rfl) | (rw [if_neg (and_1 c108)]; rfl) | (rw [if_neg (and_2 c114)]; rfl)

set_option maxHeartbeats 4000000 in
set_option maxRecDepth 100000 in
theorem c_X5_readOn6 (l : Launch) (D : va_G) (cI cZ cS cJ : ClassId) (x : Int32)  : C0 l yX5_readOn wsX5_readOn ({ frames := 1, cells := 0, slots := 0, locals := 20 }) D (tyL cI cZ cS cJ) [.int 6, .int x] (List.flatten []) (some (.int (nI (rdO 6 x)))) (List.flatten []) 0 0 := by
  refine C0_int (cc := cX5_readOn) (maxL := 2) (rt := .int) (by decide) rfl (Nat.le_of_ble_eq_true rfl) (rfl) ?_
  intro p e s m below meth c A ls Q X hK hP hD hS hA hl hend
  have X : CallFix p m c cX5_readOn 2 s ([.int 6, .int x] : List Value).toArray wsX5_readOn RX5 := X
  obtain ⟨hx, hb, hml, hown, hts⟩ := id X
  have hl : lv_has ls 2 [(0, .int 6), (1, .int x)] := hl
  refine lv_iload_n hx hb dX5_readOn_0 rfl (lv_at hl 0 rfl) ?_
  refine lv_tableIn (tgt := 124) hx hb dX5_readOn_1 (by decide) (by decide) rfl (by decide) ?_
  refine lv_iload_n hx hb dX5_readOn_124 rfl (lv_at hl 1 rfl) ?_
  refine lv_bipush (v := 48) hx hb dX5_readOn_125 (by decide) ?_
  refine lv_icmp_lt (tgt := 139) hx hb dX5_readOn_127 (by decide) (fun c127 => ?_) (fun c127 => ?_)
  · skip
    refine lv_iload_n hx hb dX5_readOn_139 rfl (lv_at hl 1 rfl) ?_
    refine lv_bipush (v := 59) hx hb dX5_readOn_140 (by decide) ?_
    refine lv_icmp_ne (tgt := 149) hx hb dX5_readOn_142 (by decide) (fun c142 => ?_) (fun c142 => ?_)
    · skip
      refine lv_iconst (v := 0) hx hb dX5_readOn_149 (by decide) ?_
      refine hend _ _ _ _ _ ?_ hP hD hS dX5_readOn_150
      rw [rdO_6]; first | (rw [if_pos (and_i c127 c133)]; rfl) | (rw [if_neg (and_1 c127), if_pos c142]; rfl) | (rw [if_neg (and_1 c127), if_neg c142]; rfl) | (rw [if_neg (and_2 c133), if_pos c142]; rfl) | (rw [if_neg (and_2 c133), if_neg c142]; rfl)
    · skip
      refine lv_iconst (v := 1) hx hb dX5_readOn_145 (by decide) ?_
      refine lv_goto (tgt := 150) hx hb dX5_readOn_146 (by decide) ?_
      refine hend _ _ _ _ _ ?_ hP hD hS dX5_readOn_150
      rw [rdO_6]; first | (rw [if_pos (and_i c127 c133)]; rfl) | (rw [if_neg (and_1 c127), if_pos c142]; rfl) | (rw [if_neg (and_1 c127), if_neg c142]; rfl) | (rw [if_neg (and_2 c133), if_pos c142]; rfl) | (rw [if_neg (and_2 c133), if_neg c142]; rfl)
  · skip
    refine lv_iload_n hx hb dX5_readOn_130 rfl (lv_at hl 1 rfl) ?_
    refine lv_bipush (v := 57) hx hb dX5_readOn_131 (by decide) ?_
    refine lv_icmp_gt (tgt := 139) hx hb dX5_readOn_133 (by decide) (fun c133 => ?_) (fun c133 => ?_)
    · skip
      refine lv_iload_n hx hb dX5_readOn_139 rfl (lv_at hl 1 rfl) ?_
      refine lv_bipush (v := 59) hx hb dX5_readOn_140 (by decide) ?_
      refine lv_icmp_ne (tgt := 149) hx hb dX5_readOn_142 (by decide) (fun c142 => ?_) (fun c142 => ?_)
      · skip
        refine lv_iconst (v := 0) hx hb dX5_readOn_149 (by decide) ?_
        refine hend _ _ _ _ _ ?_ hP hD hS dX5_readOn_150
        rw [rdO_6]; first | (rw [if_pos (and_i c127 c133)]; rfl) | (rw [if_neg (and_1 c127), if_pos c142]; rfl) | (rw [if_neg (and_1 c127), if_neg c142]; rfl) | (rw [if_neg (and_2 c133), if_pos c142]; rfl) | (rw [if_neg (and_2 c133), if_neg c142]; rfl)
      · skip
        refine lv_iconst (v := 1) hx hb dX5_readOn_145 (by decide) ?_
        refine lv_goto (tgt := 150) hx hb dX5_readOn_146 (by decide) ?_
        refine hend _ _ _ _ _ ?_ hP hD hS dX5_readOn_150
        rw [rdO_6]; first | (rw [if_pos (and_i c127 c133)]; rfl) | (rw [if_neg (and_1 c127), if_pos c142]; rfl) | (rw [if_neg (and_1 c127), if_neg c142]; rfl) | (rw [if_neg (and_2 c133), if_pos c142]; rfl) | (rw [if_neg (and_2 c133), if_neg c142]; rfl)
    · skip
      refine lv_bipush (v := 7) hx hb dX5_readOn_136 (by decide) ?_
      refine hend _ _ _ _ _ ?_ hP hD hS dX5_readOn_138
      rw [rdO_6]; first | (rw [if_pos (and_i c127 c133)]; rfl) | (rw [if_neg (and_1 c127), if_pos c142]; rfl) | (rw [if_neg (and_1 c127), if_neg c142]; rfl) | (rw [if_neg (and_2 c133), if_pos c142]; rfl) | (rw [if_neg (and_2 c133), if_neg c142]; rfl)

set_option maxHeartbeats 4000000 in
set_option maxRecDepth 100000 in
theorem c_X5_readOn7 (l : Launch) (D : va_G) (cI cZ cS cJ : ClassId) (x : Int32)  : C0 l yX5_readOn wsX5_readOn ({ frames := 1, cells := 0, slots := 0, locals := 20 }) D (tyL cI cZ cS cJ) [.int 7, .int x] (List.flatten []) (some (.int (nI (rdO 7 x)))) (List.flatten []) 0 0 := by
  refine C0_int (cc := cX5_readOn) (maxL := 2) (rt := .int) (by decide) rfl (Nat.le_of_ble_eq_true rfl) (rfl) ?_
  intro p e s m below meth c A ls Q X hK hP hD hS hA hl hend
  have X : CallFix p m c cX5_readOn 2 s ([.int 7, .int x] : List Value).toArray wsX5_readOn RX5 := X
  obtain ⟨hx, hb, hml, hown, hts⟩ := id X
  have hl : lv_has ls 2 [(0, .int 7), (1, .int x)] := hl
  refine lv_iload_n hx hb dX5_readOn_0 rfl (lv_at hl 0 rfl) ?_
  refine lv_tableIn (tgt := 151) hx hb dX5_readOn_1 (by decide) (by decide) rfl (by decide) ?_
  refine lv_iload_n hx hb dX5_readOn_151 rfl (lv_at hl 1 rfl) ?_
  refine lv_bipush (v := 59) hx hb dX5_readOn_152 (by decide) ?_
  refine lv_icmp_ne (tgt := 161) hx hb dX5_readOn_154 (by decide) (fun c154 => ?_) (fun c154 => ?_)
  · skip
    refine lv_iconst (v := 0) hx hb dX5_readOn_161 (by decide) ?_
    refine hend _ _ _ _ _ ?_ hP hD hS dX5_readOn_162
    rw [rdO_7]; first | (rw [if_pos c154]; rfl) | (rw [if_neg c154]; rfl)
  · skip
    refine lv_iconst (v := 1) hx hb dX5_readOn_157 (by decide) ?_
    refine lv_goto (tgt := 162) hx hb dX5_readOn_158 (by decide) ?_
    refine hend _ _ _ _ _ ?_ hP hD hS dX5_readOn_162
    rw [rdO_7]; first | (rw [if_pos c154]; rfl) | (rw [if_neg c154]; rfl)

theorem c_X5_readOn (l : Launch) (D : va_G) (cI cZ cS cJ : ClassId) (q : Nat) (x : Int32) (hq : q < 8) : C0 l yX5_readOn wsX5_readOn ({ frames := 1, cells := 0, slots := 0, locals := 20 }) D (tyL cI cZ cS cJ) [.int (nI q), .int x] (List.flatten []) (some (.int (nI (rdO q x)))) (List.flatten []) 0 0 := by
  rcases (show q = 0 ∨ q = 1 ∨ q = 2 ∨ q = 3 ∨ q = 4 ∨ q = 5 ∨ q = 6 ∨ q = 7 by omega) with rfl | rfl | rfl | rfl | rfl | rfl | rfl | rfl
  · exact c_X5_readOn0 l D cI cZ cS cJ x
  · exact c_X5_readOn1 l D cI cZ cS cJ x
  · exact c_X5_readOn2 l D cI cZ cS cJ x
  · exact c_X5_readOn3 l D cI cZ cS cJ x
  · exact c_X5_readOn4 l D cI cZ cS cJ x
  · exact c_X5_readOn5 l D cI cZ cS cJ x
  · exact c_X5_readOn6 l D cI cZ cS cJ x
  · exact c_X5_readOn7 l D cI cZ cS cJ x

set_option maxHeartbeats 4000000 in
set_option maxRecDepth 100000 in
theorem c_X5_errorPlace (l : Launch) (D : va_G) (cI cZ cS cJ : ClassId) (t0 : Nat) (t1 : Nat) (T : Nat → Int32) (n : Int32) (z : Nat) (hz : n = nI z) (hz60 : z ≤ 60) : C0 l yX5_errorPlace wsX5_errorPlace ({ frames := 2, cells := 0, slots := 0, locals := 41 }) D (tyL cI cZ cS cJ) [.ref t0] (List.flatten [txC cI t0 t1 T n]) (some (.int (nI (epl T z)))) (List.flatten [txC cI t0 t1 T n]) 0 0 := by
  refine C0_int (cc := cX5_errorPlace) (maxL := 3) (rt := .int) (by decide) rfl (Nat.le_of_ble_eq_true rfl) (rfl) ?_
  intro p e s m below meth c A ls Q X hK hP hD hS hA hl hend
  have X : CallFix p m c cX5_errorPlace 3 s ([.ref t0] : List Value).toArray wsX5_errorPlace RX5 := X
  obtain ⟨hx, hb, hml, hown, hts⟩ := id X
  have hl : lv_has ls 3 [(0, .ref t0)] := hl
  have hinX5 : ∀ w ∈ u_ws RX5 TX5 2, w ∈ wsX5_errorPlace := by decide +kernel
  refine lv_iconst (v := 1) hx hb dX5_errorPlace_0 (by decide) ?_
  refine lv_istore_n (lv' := [(1, .int 1), (0, .ref t0)]) hx hb dX5_errorPlace_1 rfl hl (by decide) rfl (fun ls hl => ?_)
  refine lv_iconst (v := 0) hx hb dX5_errorPlace_2 (by decide) ?_
  refine lv_istore_n (lv' := [(2, .int 0), (1, .int 1), (0, .ref t0)]) hx hb dX5_errorPlace_3 rfl hl (by decide) rfl (fun ls hl => ?_)
  have lp_4 : ∀ (nn : Nat) (i : Nat), True → (i ≤ z) → (epk T (z - i) i = epl T z) → z - i < nn → ∀ (H : Heap) (locs : List Loc) (ls : Array Slot), va_P D vwCl (List.flatten [txC cI t0 t1 T n]) H → va_D A (List.flatten [txC cI t0 t1 T n]) → va_S A s.heap H locs → lv_has ls 3 [(0, .ref t0), (1, .int (nI (rdS T i))), (2, .int (nI i))] → W p l e ({ frames := 2, cells := 0, slots := 0, locals := 41 } : Room) s m ([.ref t0] : List Value).toArray below meth c H locs 0 0 Q (F0 m 4 ls []) := by
    intro nn
    induction nn with
    | zero => intro i _ hi hinv hmz; exact absurd hmz (Nat.not_lt_zero _)
    | succ nn ih =>
      intro i _ hi hinv hms H locs ls hP hD hS hl
      refine lv_iload_n hx hb dX5_errorPlace_4 rfl (lv_at hl 2 rfl) ?_
      refine lv_aload_n hx hb dX5_errorPlace_5 rfl (lv_at hl 0 rfl) ?_
      refine va_get (D := D) (ci := 5) (v := .int n) (C := RX5) (T := TX5) (N := 2) hx hb hts hinX5 hown hK hP 0 rfl rfl 1 (by decide) (hts (.fieldLink RX5 15 "RibbonBalloons$Text" "length" "I") (by decide +kernel)) (fun _ h9 => h9) rfl dX5_errorPlace_6 ?_
      refine lv_eqi (y := nI z) hz ?_
      refine n_ge (i := i) (j := z) (tgt := 35) hx hb (by omega) (by omega) dX5_errorPlace_9 (by decide) (fun c9 => ?_) (fun c9 => ?_)
      · skip
        refine lv_aload_n hx hb dX5_errorPlace_35 rfl (lv_at hl 0 rfl) ?_
        refine va_get (D := D) (ci := 5) (v := .int n) (C := RX5) (T := TX5) (N := 2) hx hb hts hinX5 hown hK hP 0 rfl rfl 1 (by decide) (hts (.fieldLink RX5 15 "RibbonBalloons$Text" "length" "I") (by decide +kernel)) (fun _ h9 => h9) rfl dX5_errorPlace_36 ?_
        refine lv_eqi (y := nI z) hz ?_
        refine hend _ _ _ _ _ ?_ hP hD hS dX5_errorPlace_39
        exact congrArg nI (epk_o (by omega) c9 hinv)
      · skip
        have hrl := rdS_lt T i
        have hrl2 := rdS_lt T (i + 1)
        refine lv_iload_n hx hb dX5_errorPlace_12 rfl (lv_at hl 1 rfl) ?_
        refine lv_aload_n hx hb dX5_errorPlace_13 rfl (lv_at hl 0 rfl) ?_
        refine va_get (D := D) (ci := 5) (v := .ref t1) (C := RX5) (T := TX5) (N := 2) hx hb hts hinX5 hown hK hP 0 rfl rfl 0 (by decide) (hts (.fieldLink RX5 9 "RibbonBalloons$Text" "codes" "[I") (by decide +kernel)) (fun _ h9 => h9) rfl dX5_errorPlace_14 ?_
        refine lv_iload_n hx hb dX5_errorPlace_17 rfl (lv_at hl 2 rfl) ?_
        refine r_iald hx hb hK hP 1 0 i (f := T) rfl rfl (by omega) (by omega) dX5_errorPlace_18 ?_
        refine kcallS (As := [.int (nI (rdS T i)), .int (T i)]) (rest := []) (Wn := [txC cI t0 t1 T n]) X (c_X5_readOn l D cI cZ cS cJ (rdS T i) (T i) (by omega)) (va_cwS 2 hts gX5_errorPlace_X5_readOn rfl rfl rfl (by decide +kernel) ⟨Nat.le_of_ble_eq_true rfl, Nat.le_of_ble_eq_true rfl⟩) hK hP hD hS hA [] rfl (by decide +kernel) rfl rfl rfl rfl hl.1 rfl (Nat.le_of_ble_eq_true rfl) dX5_errorPlace_19 ⟨Nat.le_of_ble_eq_true rfl, Nat.le_of_ble_eq_true rfl⟩ (fun H locs hP hD hS => ?_)
        refine lv_eqi (y := nI (rdS T (i + 1))) (rfl) ?_
        refine lv_istore_n (lv' := [(1, .int (nI (rdS T (i + 1)))), (0, .ref t0), (2, .int (nI i))]) hx hb dX5_errorPlace_22 rfl hl (by decide) rfl (fun ls hl => ?_)
        refine lv_iload_n hx hb dX5_errorPlace_23 rfl (lv_at hl 0 rfl) ?_
        refine n_ifne (i := rdS T (i + 1)) (tgt := 29) hx hb (by omega) dX5_errorPlace_24 (by decide) (fun c24 => ?_) (fun c24 => ?_)
        · skip
          refine lv_iinc (v := nI (i + 1)) (lv' := [(2, .int (nI (i + 1))), (1, .int (nI (rdS T (i + 1)))), (0, .ref t0)]) hx hb dX5_errorPlace_29 hl (k := 2) rfl (nI_add _ _) (by decide) rfl (fun ls hl => ?_)
          refine lv_goto (tgt := 4) hx hb dX5_errorPlace_32 (by decide) ?_
          exact ih  (i + 1) trivial (by omega) (by rw [← hinv]; exact (epk_s (by omega) c24).symm) (by omega) _ _ _ hP hD hS (lv_sub hl [2, 1, 0] rfl)
        · skip
          refine lv_iload_n hx hb dX5_errorPlace_27 rfl (lv_at hl 2 rfl) ?_
          refine hend _ _ _ _ _ ?_ hP hD hS dX5_errorPlace_28
          exact congrArg nI (epk_f (by omega) c24 hinv)
  exact lp_4 (z - 0 + 1) 0 trivial (Nat.zero_le _) rfl (Nat.lt_succ_self _) _ _ _ hP hD hS (lv_sub hl [2, 1, 0] rfl)

set_option maxHeartbeats 4000000 in
set_option maxRecDepth 100000 in
theorem c_X5_isComplete (l : Launch) (D : va_G) (cI cZ cS cJ : ClassId) (t0 : Nat) (t1 : Nat) (T : Nat → Int32) (n : Int32) (z : Nat) (hz : n = nI z) (hz60 : z ≤ 60) : C0 l yX5_isComplete wsX5_isComplete ({ frames := 2, cells := 0, slots := 0, locals := 41 }) D (tyL cI cZ cS cJ) [.ref t0] (List.flatten [txC cI t0 t1 T n]) (some (.int (b1 (rdS T z = 6 ∨ rdS T z = 7)))) (List.flatten [txC cI t0 t1 T n]) 0 0 := by
  refine C0_int (cc := cX5_isComplete) (maxL := 3) (rt := .boolean) (by decide) rfl (Nat.le_of_ble_eq_true rfl) (nar_b1 _) ?_
  intro p e s m below meth c A ls Q X hK hP hD hS hA hl hend
  have X : CallFix p m c cX5_isComplete 3 s ([.ref t0] : List Value).toArray wsX5_isComplete RX5 := X
  obtain ⟨hx, hb, hml, hown, hts⟩ := id X
  have hl : lv_has ls 3 [(0, .ref t0)] := hl
  have hinX5 : ∀ w ∈ u_ws RX5 TX5 2, w ∈ wsX5_isComplete := by decide +kernel
  refine lv_iconst (v := 1) hx hb dX5_isComplete_0 (by decide) ?_
  refine lv_istore_n (lv' := [(1, .int 1), (0, .ref t0)]) hx hb dX5_isComplete_1 rfl hl (by decide) rfl (fun ls hl => ?_)
  refine lv_iconst (v := 0) hx hb dX5_isComplete_2 (by decide) ?_
  refine lv_istore_n (lv' := [(2, .int 0), (1, .int 1), (0, .ref t0)]) hx hb dX5_isComplete_3 rfl hl (by decide) rfl (fun ls hl => ?_)
  have lp_4 : ∀ (nn : Nat) (i : Nat), True → (i ≤ z) → z - i < nn → ∀ (H : Heap) (locs : List Loc) (ls : Array Slot), va_P D vwCl (List.flatten [txC cI t0 t1 T n]) H → va_D A (List.flatten [txC cI t0 t1 T n]) → va_S A s.heap H locs → lv_has ls 3 [(0, .ref t0), (1, .int (nI (rdS T i))), (2, .int (nI i))] → W p l e ({ frames := 2, cells := 0, slots := 0, locals := 41 } : Room) s m ([.ref t0] : List Value).toArray below meth c H locs 0 0 Q (F0 m 4 ls []) := by
    intro nn
    induction nn with
    | zero => intro i _ hi hmz; exact absurd hmz (Nat.not_lt_zero _)
    | succ nn ih =>
      intro i _ hi hms H locs ls hP hD hS hl
      refine lv_iload_n hx hb dX5_isComplete_4 rfl (lv_at hl 2 rfl) ?_
      refine lv_aload_n hx hb dX5_isComplete_5 rfl (lv_at hl 0 rfl) ?_
      refine va_get (D := D) (ci := 5) (v := .int n) (C := RX5) (T := TX5) (N := 2) hx hb hts hinX5 hown hK hP 0 rfl rfl 1 (by decide) (hts (.fieldLink RX5 15 "RibbonBalloons$Text" "length" "I") (by decide +kernel)) (fun _ h9 => h9) rfl dX5_isComplete_6 ?_
      refine lv_eqi (y := nI z) hz ?_
      refine n_ge (i := i) (j := z) (tgt := 29) hx hb (by omega) (by omega) dX5_isComplete_9 (by decide) (fun c9 => ?_) (fun c9 => ?_)
      · skip
        obtain rfl : z = i := by omega
        have hP : va_P D vwCl (List.flatten [txC cI t0 t1 T n]) _ := hP
        have hD : va_D A (List.flatten [txC cI t0 t1 T n]) := hD
        have hl : lv_has ls 3 [(0, .ref t0), (1, .int (nI (rdS T z))), (2, .int (nI z))] := hl
        have hrl := rdS_lt T z
        refine lv_iload_n hx hb dX5_isComplete_29 rfl (lv_at hl 1 rfl) ?_
        refine lv_bipush (v := 6) hx hb dX5_isComplete_30 (by decide) ?_
        refine n_eq (i := rdS T z) (j := 6) (tgt := 41) hx hb (by omega) (by omega) dX5_isComplete_32 (by decide) (fun c32 => ?_) (fun c32 => ?_)
        · skip
          refine lv_iconst (v := 1) hx hb dX5_isComplete_41 (by decide) ?_
          refine lv_goto (tgt := 46) hx hb dX5_isComplete_42 (by decide) ?_
          refine hend _ _ _ _ _ ?_ hP hD hS dX5_isComplete_46
          unfold b1; first | rw [if_pos (Or.inl c32)] | rw [if_pos (Or.inr c38)] | rw [if_neg (fun h => h.elim c32 c38)]
        · skip
          refine lv_iload_n hx hb dX5_isComplete_35 rfl (lv_at hl 1 rfl) ?_
          refine lv_bipush (v := 7) hx hb dX5_isComplete_36 (by decide) ?_
          refine n_ne (i := rdS T z) (j := 7) (tgt := 45) hx hb (by omega) (by omega) dX5_isComplete_38 (by decide) (fun c38 => ?_) (fun c38 => ?_)
          · skip
            refine lv_iconst (v := 0) hx hb dX5_isComplete_45 (by decide) ?_
            refine hend _ _ _ _ _ ?_ hP hD hS dX5_isComplete_46
            unfold b1; first | rw [if_pos (Or.inl c32)] | rw [if_pos (Or.inr c38)] | rw [if_neg (fun h => h.elim c32 c38)]
          · skip
            refine lv_iconst (v := 1) hx hb dX5_isComplete_41 (by decide) ?_
            refine lv_goto (tgt := 46) hx hb dX5_isComplete_42 (by decide) ?_
            refine hend _ _ _ _ _ ?_ hP hD hS dX5_isComplete_46
            unfold b1; first | rw [if_pos (Or.inl c32)] | rw [if_pos (Or.inr c38)] | rw [if_neg (fun h => h.elim c32 c38)]
      · skip
        have hrl := rdS_lt T i
        refine lv_iload_n hx hb dX5_isComplete_12 rfl (lv_at hl 1 rfl) ?_
        refine lv_aload_n hx hb dX5_isComplete_13 rfl (lv_at hl 0 rfl) ?_
        refine va_get (D := D) (ci := 5) (v := .ref t1) (C := RX5) (T := TX5) (N := 2) hx hb hts hinX5 hown hK hP 0 rfl rfl 0 (by decide) (hts (.fieldLink RX5 9 "RibbonBalloons$Text" "codes" "[I") (by decide +kernel)) (fun _ h9 => h9) rfl dX5_isComplete_14 ?_
        refine lv_iload_n hx hb dX5_isComplete_17 rfl (lv_at hl 2 rfl) ?_
        refine r_iald hx hb hK hP 1 0 i (f := T) rfl rfl (by omega) (by omega) dX5_isComplete_18 ?_
        refine kcallS (As := [.int (nI (rdS T i)), .int (T i)]) (rest := []) (Wn := [txC cI t0 t1 T n]) X (c_X5_readOn l D cI cZ cS cJ (rdS T i) (T i) (by omega)) (va_cwS 2 hts gX5_isComplete_X5_readOn rfl rfl rfl (by decide +kernel) ⟨Nat.le_of_ble_eq_true rfl, Nat.le_of_ble_eq_true rfl⟩) hK hP hD hS hA [] rfl (by decide +kernel) rfl rfl rfl rfl hl.1 rfl (Nat.le_of_ble_eq_true rfl) dX5_isComplete_19 ⟨Nat.le_of_ble_eq_true rfl, Nat.le_of_ble_eq_true rfl⟩ (fun H locs hP hD hS => ?_)
        refine lv_eqi (y := nI (rdS T (i + 1))) (rfl) ?_
        refine lv_istore_n (lv' := [(1, .int (nI (rdS T (i + 1)))), (0, .ref t0), (2, .int (nI i))]) hx hb dX5_isComplete_22 rfl hl (by decide) rfl (fun ls hl => ?_)
        refine lv_iinc (v := nI (i + 1)) (lv' := [(2, .int (nI (i + 1))), (1, .int (nI (rdS T (i + 1)))), (0, .ref t0)]) hx hb dX5_isComplete_23 hl (k := 2) rfl (nI_add _ _) (by decide) rfl (fun ls hl => ?_)
        refine lv_goto (tgt := 4) hx hb dX5_isComplete_26 (by decide) ?_
        exact ih  (i + 1) trivial (by omega) (by omega) _ _ _ hP hD hS (lv_sub hl [2, 1, 0] rfl)
  exact lp_4 (z - 0 + 1) 0 trivial (by omega) (Nat.lt_succ_self _) _ _ _ hP hD hS (lv_sub hl [2, 1, 0] rfl)

set_option maxHeartbeats 4000000 in
set_option maxRecDepth 100000 in
theorem c_X5_endsPart (l : Launch) (D : va_G) (cI cZ cS cJ : ClassId) (t0 : Nat) (t1 : Nat) (T : Nat → Int32) (n : Int32) (z : Nat) (i : Nat) (hz : n = nI z) (hz60 : z ≤ 60) (hi : i < 2147483648) : C0 l yX5_endsPart wsX5_endsPart ({ frames := 1, cells := 0, slots := 0, locals := 21 }) D (tyL cI cZ cS cJ) [.ref t0, .int (nI i)] (List.flatten [txC cI t0 t1 T n]) (some (.int (b1 (i = z ∨ cod T z i = 59)))) (List.flatten [txC cI t0 t1 T n]) 0 0 := by
  refine C0_int (cc := cX5_endsPart) (maxL := 2) (rt := .boolean) (by decide) rfl (Nat.le_of_ble_eq_true rfl) (nar_b1 _) ?_
  intro p e s m below meth c A ls Q X hK hP hD hS hA hl hend
  have X : CallFix p m c cX5_endsPart 2 s ([.ref t0, .int (nI i)] : List Value).toArray wsX5_endsPart RX5 := X
  obtain ⟨hx, hb, hml, hown, hts⟩ := id X
  have hl : lv_has ls 2 [(0, .ref t0), (1, .int (nI i))] := hl
  have hinX5 : ∀ w ∈ u_ws RX5 TX5 2, w ∈ wsX5_endsPart := by decide +kernel
  refine lv_iload_n hx hb dX5_endsPart_0 rfl (lv_at hl 1 rfl) ?_
  refine lv_aload_n hx hb dX5_endsPart_1 rfl (lv_at hl 0 rfl) ?_
  refine va_get (D := D) (ci := 5) (v := .int n) (C := RX5) (T := TX5) (N := 2) hx hb hts hinX5 hown hK hP 0 rfl rfl 1 (by decide) (hts (.fieldLink RX5 15 "RibbonBalloons$Text" "length" "I") (by decide +kernel)) (fun _ h9 => h9) rfl dX5_endsPart_2 ?_
  refine lv_eqi (y := nI z) hz ?_
  refine n_eq (i := i) (j := z) (tgt := 18) hx hb (by omega) (by omega) dX5_endsPart_5 (by decide) (fun c5 => ?_) (fun c5 => ?_)
  · skip
    refine lv_iconst (v := 1) hx hb dX5_endsPart_18 (by decide) ?_
    refine lv_goto (tgt := 23) hx hb dX5_endsPart_19 (by decide) ?_
    refine hend _ _ _ _ _ ?_ hP hD hS dX5_endsPart_23
    unfold b1; first | rw [if_pos (Or.inl c5)] | rw [if_pos (Or.inr c15)] | rw [if_neg (fun h => h.elim c5 c15)]
  · skip
    refine lv_aload_n hx hb dX5_endsPart_8 rfl (lv_at hl 0 rfl) ?_
    refine lv_iload_n hx hb dX5_endsPart_9 rfl (lv_at hl 1 rfl) ?_
    refine kcallV (As := [.int (nI i)]) (rest := []) (Wn := [txC cI t0 t1 T n]) X (c_X5_code l D cI cZ cS cJ t0 t1 T n z i (by assumption) (by omega) (by omega)) (cwV 1 hts gX5_endsPart_X5_code rfl rfl rfl (by decide +kernel) ⟨Nat.le_of_ble_eq_true rfl, Nat.le_of_ble_eq_true rfl⟩) hK hP hD hS hA [0] rfl (by decide +kernel) rfl rfl rfl 0 5 rfl rfl rfl hl.1 rfl (Nat.le_of_ble_eq_true rfl) dX5_endsPart_10 ⟨Nat.le_of_ble_eq_true rfl, Nat.le_of_ble_eq_true rfl⟩ (fun H locs hP hD hS => ?_)
    refine lv_bipush (v := 59) hx hb dX5_endsPart_13 (by decide) ?_
    refine lv_icmp_ne (tgt := 22) hx hb dX5_endsPart_15 (by decide) (fun c15 => ?_) (fun c15 => ?_)
    · skip
      refine lv_iconst (v := 0) hx hb dX5_endsPart_22 (by decide) ?_
      refine hend _ _ _ _ _ ?_ hP hD hS dX5_endsPart_23
      unfold b1; first | rw [if_pos (Or.inl c5)] | rw [if_pos (Or.inr c15)] | rw [if_neg (fun h => h.elim c5 c15)]
    · skip
      refine lv_iconst (v := 1) hx hb dX5_endsPart_18 (by decide) ?_
      refine lv_goto (tgt := 23) hx hb dX5_endsPart_19 (by decide) ?_
      refine hend _ _ _ _ _ ?_ hP hD hS dX5_endsPart_23
      unfold b1; first | rw [if_pos (Or.inl c5)] | rw [if_pos (Or.inr c15)] | rw [if_neg (fun h => h.elim c5 c15)]

set_option maxHeartbeats 4000000 in
set_option maxRecDepth 100000 in
theorem c_X5_number (l : Launch) (D : va_G) (cI cZ cS cJ : ClassId) (t0 : Nat) (t1 : Nat) (T : Nat → Int32) (n : Int32) (z : Nat) (s0 : Nat) (e0 : Nat) (hz : n = nI z) (hz60 : z ≤ 60) (hse : s0 ≤ e0) (he : e0 < 100) : C0 l yX5_number wsX5_number ({ frames := 1, cells := 0, slots := 0, locals := 21 }) D (tyL cI cZ cS cJ) [.ref t0, .int (nI s0), .int (nI e0)] (List.flatten [txC cI t0 t1 T n]) (some (.int (nmb T z s0 (e0 - s0)))) (List.flatten [txC cI t0 t1 T n]) 0 0 := by
  refine C0_int (cc := cX5_number) (maxL := 5) (rt := .int) (by decide) rfl (Nat.le_of_ble_eq_true rfl) (rfl) ?_
  intro p e s m below meth c A ls Q X hK hP hD hS hA hl hend
  have X : CallFix p m c cX5_number 5 s ([.ref t0, .int (nI s0), .int (nI e0)] : List Value).toArray wsX5_number RX5 := X
  obtain ⟨hx, hb, hml, hown, hts⟩ := id X
  have hl : lv_has ls 5 [(0, .ref t0), (1, .int (nI s0)), (2, .int (nI e0))] := hl
  refine lv_iconst (v := 0) hx hb dX5_number_0 (by decide) ?_
  refine lv_istore_n (lv' := [(3, .int 0), (0, .ref t0), (1, .int (nI s0)), (2, .int (nI e0))]) hx hb dX5_number_1 rfl hl (by decide) rfl (fun ls hl => ?_)
  refine lv_iload_n hx hb dX5_number_2 rfl (lv_at hl 2 rfl) ?_
  refine lv_istore (lv' := [(4, .int (nI s0)), (3, .int 0), (0, .ref t0), (1, .int (nI s0)), (2, .int (nI e0))]) hx hb dX5_number_3 hl (by decide) rfl (fun ls hl => ?_)
  have lp_5 : ∀ (nn : Nat) (k : Nat), True → (s0 ≤ k) → (k ≤ e0) → e0 - k < nn → ∀ (H : Heap) (locs : List Loc) (ls : Array Slot), va_P D vwCl (List.flatten [txC cI t0 t1 T n]) H → va_D A (List.flatten [txC cI t0 t1 T n]) → va_S A s.heap H locs → lv_has ls 5 [(0, .ref t0), (1, .int (nI s0)), (2, .int (nI e0)), (3, .int (nmb T z s0 (k - s0))), (4, .int (nI k))] → W p l e ({ frames := 1, cells := 0, slots := 0, locals := 21 } : Room) s m ([.ref t0, .int (nI s0), .int (nI e0)] : List Value).toArray below meth c H locs 0 0 Q (F0 m 5 ls []) := by
    intro nn
    induction nn with
    | zero => intro k _ hk hk2 hmz; exact absurd hmz (Nat.not_lt_zero _)
    | succ nn ih =>
      intro k _ hk hk2 hms H locs ls hP hD hS hl
      refine lv_iload hx hb dX5_number_5 (lv_at hl 4 rfl) ?_
      refine lv_iload_n hx hb dX5_number_7 rfl (lv_at hl 2 rfl) ?_
      refine n_ge (i := k) (j := e0) (tgt := 32) hx hb (by omega) (by omega) dX5_number_8 (by decide) (fun c8 => ?_) (fun c8 => ?_)
      · skip
        refine lv_iload_n hx hb dX5_number_32 rfl (lv_at hl 3 rfl) ?_
        refine hend _ _ _ _ _ ?_ hP hD hS dX5_number_33
        rw [show k = e0 by omega]
      · skip
        refine lv_bipush (v := 10) hx hb dX5_number_11 (by decide) ?_
        refine lv_iload_n hx hb dX5_number_13 rfl (lv_at hl 3 rfl) ?_
        refine lv_imul hx hb dX5_number_14 ?_
        refine lv_aload_n hx hb dX5_number_15 rfl (lv_at hl 0 rfl) ?_
        refine lv_iload hx hb dX5_number_16 (lv_at hl 4 rfl) ?_
        refine kcallV (As := [.int (nI k)]) (rest := [.int (10 * (nmb T z s0 (k - s0)))]) (Wn := [txC cI t0 t1 T n]) X (c_X5_code l D cI cZ cS cJ t0 t1 T n z k (by assumption) (by omega) (by omega)) (cwV 1 hts gX5_number_X5_code rfl rfl rfl (by decide +kernel) ⟨Nat.le_of_ble_eq_true rfl, Nat.le_of_ble_eq_true rfl⟩) hK hP hD hS hA [0] rfl (by decide +kernel) rfl rfl rfl 0 5 rfl rfl rfl hl.1 rfl (Nat.le_of_ble_eq_true rfl) dX5_number_18 ⟨Nat.le_of_ble_eq_true rfl, Nat.le_of_ble_eq_true rfl⟩ (fun H locs hP hD hS => ?_)
        refine lv_iadd hx hb dX5_number_21 ?_
        refine lv_bipush (v := 48) hx hb dX5_number_22 (by decide) ?_
        refine lv_isub hx hb dX5_number_24 ?_
        refine lv_eqi (y := nmb T z s0 (k + 1 - s0)) (nmb_s (by omega)) ?_
        refine lv_istore_n (lv' := [(3, .int (nmb T z s0 (k + 1 - s0))), (0, .ref t0), (1, .int (nI s0)), (2, .int (nI e0)), (4, .int (nI k))]) hx hb dX5_number_25 rfl hl (by decide) rfl (fun ls hl => ?_)
        refine lv_iinc (v := nI (k + 1)) (lv' := [(4, .int (nI (k + 1))), (3, .int (nmb T z s0 (k + 1 - s0))), (0, .ref t0), (1, .int (nI s0)), (2, .int (nI e0))]) hx hb dX5_number_26 hl (k := 4) rfl (nI_add _ _) (by decide) rfl (fun ls hl => ?_)
        refine lv_goto (tgt := 5) hx hb dX5_number_29 (by decide) ?_
        exact ih  (k + 1) trivial (by omega) (by omega) (by omega) _ _ _ hP hD hS (lv_sub hl [2, 3, 4, 1, 0] rfl)
  have hl : lv_has ls 5 [(4, .int (nI s0)), (3, .int (nmb T z s0 (s0 - s0))), (0, .ref t0), (1, .int (nI s0)), (2, .int (nI e0))] := lv_re hl 1 (x := 0) (y := nmb T z s0 (s0 - s0)) rfl (by rw [Nat.sub_self]; rfl) rfl
  exact lp_5 (e0 - s0 + 1) s0 trivial (Nat.le_refl _) hse (Nat.lt_succ_self _) _ _ _ hP hD hS (lv_sub hl [2, 3, 4, 1, 0] rfl)

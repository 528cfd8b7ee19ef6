set_option maxHeartbeats 4000000 in
set_option maxRecDepth 100000 in
theorem c_X2_forgetOldest (l : Launch) (D : va_G) (cI cZ cS cJ : ClassId) (q0 : Nat) (q1 : Nat) (f : Nat → Option Nat) (n : Int32) (r0 : Nat) (r1 : Nat) (r2 : Nat) (r3 : Nat) (r4 : Nat) (r5 : Nat) (v0 : List Value) (v1 : List Value) (v2 : List Value) (v3 : List Value) (v4 : List Value) (v5 : List Value) (hf0 : f 0 = some r0) (hf1 : f 1 = some r1) (hf2 : f 2 = some r2) (hf3 : f 3 = some r3) (hf4 : f 4 = some r4) (hf5 : f 5 = some r5) : C0 l yX2_forgetOldest wsX2_forgetOldest ({ frames := 0, cells := 0, slots := 0, locals := 0 }) D (tyL cI cZ cS cJ) [.ref q0] (List.flatten [hsC cS q0 q1 f n, [(r0, .inr (4, v0))], [(r1, .inr (4, v1))], [(r2, .inr (4, v2))], [(r3, .inr (4, v3))], [(r4, .inr (4, v4))], [(r5, .inr (4, v5))]]) none (List.flatten [hsC cS q0 q1 (rtf f) 5, [(r0, .inr (4, v0))], [(r1, .inr (4, v1))], [(r2, .inr (4, v2))], [(r3, .inr (4, v3))], [(r4, .inr (4, v4))], [(r5, .inr (4, v5))]]) 0 0 := by
  refine C0_void (cc := cX2_forgetOldest) (maxL := 3) (by decide) rfl (Nat.le_of_ble_eq_true rfl) ?_
  intro p e s m below meth c A ls Q X hnm hK hP hD hS hA hl hend
  have X : CallFix p m c cX2_forgetOldest 3 s ([.ref q0] : List Value).toArray wsX2_forgetOldest RX2 := X
  obtain ⟨hx, hb, hml, hown, hts⟩ := id X
  have hl : lv_has ls 3 [(0, .ref q0)] := hl
  have hinX2 : ∀ w ∈ u_ws RX2 TX2 2, w ∈ wsX2_forgetOldest := by decide +kernel
  refine lv_aload_n hx hb dX2_forgetOldest_0 rfl (lv_at hl 0 rfl) ?_
  refine va_get (D := D) (ci := 2) (v := .ref q1) (C := RX2) (T := TX2) (N := 2) hx hb hts hinX2 hown hK hP 0 rfl rfl 0 (by decide) (hts (.fieldLink RX2 11 "RibbonBalloons$History" "saved" "[LRibbonBalloons$State;") (by decide +kernel)) (fun _ h9 => h9) rfl dX2_forgetOldest_1 ?_
  refine lv_iconst (v := 0) hx hb dX2_forgetOldest_4 (by decide) ?_
  refine r_aald (r := r0) hx hb hK hP 1 2 0 rfl rfl (by omega) (by omega) hf0 dX2_forgetOldest_5 ?_
  refine lv_astore_n (lv' := [(1, .ref r0), (0, .ref q0)]) hx hb dX2_forgetOldest_6 rfl hl (by decide) rfl (fun ls hl => ?_)
  refine lv_iconst (v := 1) hx hb dX2_forgetOldest_7 (by decide) ?_
  refine lv_istore_n (lv' := [(2, .int 1), (1, .ref r0), (0, .ref q0)]) hx hb dX2_forgetOldest_8 rfl hl (by decide) rfl (fun ls hl => ?_)
  refine lv_iload_n hx hb dX2_forgetOldest_9 rfl (lv_at hl 0 rfl) ?_
  refine lv_bipush (v := 6) hx hb dX2_forgetOldest_10 (by decide) ?_
  refine lv_icmp_ge (tgt := 35) hx hb dX2_forgetOldest_12 (by decide) (fun h => absurd h (by decide)) (fun _ => ?_)
  refine lv_aload_n hx hb dX2_forgetOldest_15 rfl (lv_at hl 2 rfl) ?_
  refine va_get (D := D) (ci := 2) (v := .ref q1) (C := RX2) (T := TX2) (N := 2) hx hb hts hinX2 hown hK hP 0 rfl rfl 0 (by decide) (hts (.fieldLink RX2 11 "RibbonBalloons$History" "saved" "[LRibbonBalloons$State;") (by decide +kernel)) (fun _ h9 => h9) rfl dX2_forgetOldest_16 ?_
  refine lv_iload_n hx hb dX2_forgetOldest_19 rfl (lv_at hl 0 rfl) ?_
  refine lv_iconst (v := 1) hx hb dX2_forgetOldest_20 (by decide) ?_
  refine lv_isub hx hb dX2_forgetOldest_21 ?_
  refine lv_eqi (y := 0) (by decide) ?_
  refine lv_aload_n hx hb dX2_forgetOldest_22 rfl (lv_at hl 2 rfl) ?_
  refine va_get (D := D) (ci := 2) (v := .ref q1) (C := RX2) (T := TX2) (N := 2) hx hb hts hinX2 hown hK hP 0 rfl rfl 0 (by decide) (hts (.fieldLink RX2 11 "RibbonBalloons$History" "saved" "[LRibbonBalloons$State;") (by decide +kernel)) (fun _ h9 => h9) rfl dX2_forgetOldest_23 ?_
  refine lv_iload_n hx hb dX2_forgetOldest_26 rfl (lv_at hl 0 rfl) ?_
  refine r_aald (r := r1) hx hb hK hP 1 2 1 rfl rfl (by omega) (by omega) hf1 dX2_forgetOldest_27 ?_
  refine r_aast (wn := List.flatten [hsC cS q0 q1 (va_up f 0 (some r1)) n, [(r0, .inr (4, v0))], [(r1, .inr (4, v1))], [(r2, .inr (4, v2))], [(r3, .inr (4, v3))], [(r4, .inr (4, v4))], [(r5, .inr (4, v5))]]) hx hb hK hP hD hS 1 2 3 4 0 rfl rfl rfl rfl (by omega) (by omega) rfl dX2_forgetOldest_28 (fun H locs hP hD hS => ?_)
  refine lv_iinc (v := 2) (lv' := [(2, .int 2), (1, .ref r0), (0, .ref q0)]) hx hb dX2_forgetOldest_29 hl (k := 0) rfl (by decide) (by decide) rfl (fun ls hl => ?_)
  refine lv_goto (tgt := 9) hx hb dX2_forgetOldest_32 (by decide) ?_
  refine lv_iload_n hx hb dX2_forgetOldest_9 rfl (lv_at hl 0 rfl) ?_
  refine lv_bipush (v := 6) hx hb dX2_forgetOldest_10 (by decide) ?_
  refine lv_icmp_ge (tgt := 35) hx hb dX2_forgetOldest_12 (by decide) (fun h => absurd h (by decide)) (fun _ => ?_)
  refine lv_aload_n hx hb dX2_forgetOldest_15 rfl (lv_at hl 2 rfl) ?_
  refine va_get (D := D) (ci := 2) (v := .ref q1) (C := RX2) (T := TX2) (N := 2) hx hb hts hinX2 hown hK hP 0 rfl rfl 0 (by decide) (hts (.fieldLink RX2 11 "RibbonBalloons$History" "saved" "[LRibbonBalloons$State;") (by decide +kernel)) (fun _ h9 => h9) rfl dX2_forgetOldest_16 ?_
  refine lv_iload_n hx hb dX2_forgetOldest_19 rfl (lv_at hl 0 rfl) ?_
  refine lv_iconst (v := 1) hx hb dX2_forgetOldest_20 (by decide) ?_
  refine lv_isub hx hb dX2_forgetOldest_21 ?_
  refine lv_eqi (y := 1) (by decide) ?_
  refine lv_aload_n hx hb dX2_forgetOldest_22 rfl (lv_at hl 2 rfl) ?_
  refine va_get (D := D) (ci := 2) (v := .ref q1) (C := RX2) (T := TX2) (N := 2) hx hb hts hinX2 hown hK hP 0 rfl rfl 0 (by decide) (hts (.fieldLink RX2 11 "RibbonBalloons$History" "saved" "[LRibbonBalloons$State;") (by decide +kernel)) (fun _ h9 => h9) rfl dX2_forgetOldest_23 ?_
  refine lv_iload_n hx hb dX2_forgetOldest_26 rfl (lv_at hl 0 rfl) ?_
  refine r_aald (r := r2) hx hb hK hP 1 2 2 rfl rfl (by omega) (by omega) hf2 dX2_forgetOldest_27 ?_
  refine r_aast (wn := List.flatten [hsC cS q0 q1 (va_up (va_up f 0 (some r1)) 1 (some r2)) n, [(r0, .inr (4, v0))], [(r1, .inr (4, v1))], [(r2, .inr (4, v2))], [(r3, .inr (4, v3))], [(r4, .inr (4, v4))], [(r5, .inr (4, v5))]]) hx hb hK hP hD hS 1 2 4 4 1 rfl rfl rfl rfl (by omega) (by omega) rfl dX2_forgetOldest_28 (fun H locs hP hD hS => ?_)
  refine lv_iinc (v := 3) (lv' := [(2, .int 3), (1, .ref r0), (0, .ref q0)]) hx hb dX2_forgetOldest_29 hl (k := 0) rfl (by decide) (by decide) rfl (fun ls hl => ?_)
  refine lv_goto (tgt := 9) hx hb dX2_forgetOldest_32 (by decide) ?_
  refine lv_iload_n hx hb dX2_forgetOldest_9 rfl (lv_at hl 0 rfl) ?_
  refine lv_bipush (v := 6) hx hb dX2_forgetOldest_10 (by decide) ?_
  refine lv_icmp_ge (tgt := 35) hx hb dX2_forgetOldest_12 (by decide) (fun h => absurd h (by decide)) (fun _ => ?_)
  refine lv_aload_n hx hb dX2_forgetOldest_15 rfl (lv_at hl 2 rfl) ?_
  refine va_get (D := D) (ci := 2) (v := .ref q1) (C := RX2) (T := TX2) (N := 2) hx hb hts hinX2 hown hK hP 0 rfl rfl 0 (by decide) (hts (.fieldLink RX2 11 "RibbonBalloons$History" "saved" "[LRibbonBalloons$State;") (by decide +kernel)) (fun _ h9 => h9) rfl dX2_forgetOldest_16 ?_
  refine lv_iload_n hx hb dX2_forgetOldest_19 rfl (lv_at hl 0 rfl) ?_
  refine lv_iconst (v := 1) hx hb dX2_forgetOldest_20 (by decide) ?_
  refine lv_isub hx hb dX2_forgetOldest_21 ?_
  refine lv_eqi (y := 2) (by decide) ?_
  refine lv_aload_n hx hb dX2_forgetOldest_22 rfl (lv_at hl 2 rfl) ?_
  refine va_get (D := D) (ci := 2) (v := .ref q1) (C := RX2) (T := TX2) (N := 2) hx hb hts hinX2 hown hK hP 0 rfl rfl 0 (by decide) (hts (.fieldLink RX2 11 "RibbonBalloons$History" "saved" "[LRibbonBalloons$State;") (by decide +kernel)) (fun _ h9 => h9) rfl dX2_forgetOldest_23 ?_
  refine lv_iload_n hx hb dX2_forgetOldest_26 rfl (lv_at hl 0 rfl) ?_
  refine r_aald (r := r3) hx hb hK hP 1 2 3 rfl rfl (by omega) (by omega) hf3 dX2_forgetOldest_27 ?_
  refine r_aast (wn := List.flatten [hsC cS q0 q1 (va_up (va_up (va_up f 0 (some r1)) 1 (some r2)) 2 (some r3)) n, [(r0, .inr (4, v0))], [(r1, .inr (4, v1))], [(r2, .inr (4, v2))], [(r3, .inr (4, v3))], [(r4, .inr (4, v4))], [(r5, .inr (4, v5))]]) hx hb hK hP hD hS 1 2 5 4 2 rfl rfl rfl rfl (by omega) (by omega) rfl dX2_forgetOldest_28 (fun H locs hP hD hS => ?_)
  refine lv_iinc (v := 4) (lv' := [(2, .int 4), (1, .ref r0), (0, .ref q0)]) hx hb dX2_forgetOldest_29 hl (k := 0) rfl (by decide) (by decide) rfl (fun ls hl => ?_)
  refine lv_goto (tgt := 9) hx hb dX2_forgetOldest_32 (by decide) ?_
  refine lv_iload_n hx hb dX2_forgetOldest_9 rfl (lv_at hl 0 rfl) ?_
  refine lv_bipush (v := 6) hx hb dX2_forgetOldest_10 (by decide) ?_
  refine lv_icmp_ge (tgt := 35) hx hb dX2_forgetOldest_12 (by decide) (fun h => absurd h (by decide)) (fun _ => ?_)
  refine lv_aload_n hx hb dX2_forgetOldest_15 rfl (lv_at hl 2 rfl) ?_
  refine va_get (D := D) (ci := 2) (v := .ref q1) (C := RX2) (T := TX2) (N := 2) hx hb hts hinX2 hown hK hP 0 rfl rfl 0 (by decide) (hts (.fieldLink RX2 11 "RibbonBalloons$History" "saved" "[LRibbonBalloons$State;") (by decide +kernel)) (fun _ h9 => h9) rfl dX2_forgetOldest_16 ?_
  refine lv_iload_n hx hb dX2_forgetOldest_19 rfl (lv_at hl 0 rfl) ?_
  refine lv_iconst (v := 1) hx hb dX2_forgetOldest_20 (by decide) ?_
  refine lv_isub hx hb dX2_forgetOldest_21 ?_
  refine lv_eqi (y := 3) (by decide) ?_
  refine lv_aload_n hx hb dX2_forgetOldest_22 rfl (lv_at hl 2 rfl) ?_
  refine va_get (D := D) (ci := 2) (v := .ref q1) (C := RX2) (T := TX2) (N := 2) hx hb hts hinX2 hown hK hP 0 rfl rfl 0 (by decide) (hts (.fieldLink RX2 11 "RibbonBalloons$History" "saved" "[LRibbonBalloons$State;") (by decide +kernel)) (fun _ h9 => h9) rfl dX2_forgetOldest_23 ?_
  refine lv_iload_n hx hb dX2_forgetOldest_26 rfl (lv_at hl 0 rfl) ?_
  refine r_aald (r := r4) hx hb hK hP 1 2 4 rfl rfl (by omega) (by omega) hf4 dX2_forgetOldest_27 ?_
  refine r_aast (wn := List.flatten [hsC cS q0 q1 (va_up (va_up (va_up (va_up f 0 (some r1)) 1 (some r2)) 2 (some r3)) 3 (some r4)) n, [(r0, .inr (4, v0))], [(r1, .inr (4, v1))], [(r2, .inr (4, v2))], [(r3, .inr (4, v3))], [(r4, .inr (4, v4))], [(r5, .inr (4, v5))]]) hx hb hK hP hD hS 1 2 6 4 3 rfl rfl rfl rfl (by omega) (by omega) rfl dX2_forgetOldest_28 (fun H locs hP hD hS => ?_)
  refine lv_iinc (v := 5) (lv' := [(2, .int 5), (1, .ref r0), (0, .ref q0)]) hx hb dX2_forgetOldest_29 hl (k := 0) rfl (by decide) (by decide) rfl (fun ls hl => ?_)
  refine lv_goto (tgt := 9) hx hb dX2_forgetOldest_32 (by decide) ?_
  refine lv_iload_n hx hb dX2_forgetOldest_9 rfl (lv_at hl 0 rfl) ?_
  refine lv_bipush (v := 6) hx hb dX2_forgetOldest_10 (by decide) ?_
  refine lv_icmp_ge (tgt := 35) hx hb dX2_forgetOldest_12 (by decide) (fun h => absurd h (by decide)) (fun _ => ?_)
  refine lv_aload_n hx hb dX2_forgetOldest_15 rfl (lv_at hl 2 rfl) ?_
  refine va_get (D := D) (ci := 2) (v := .ref q1) (C := RX2) (T := TX2) (N := 2) hx hb hts hinX2 hown hK hP 0 rfl rfl 0 (by decide) (hts (.fieldLink RX2 11 "RibbonBalloons$History" "saved" "[LRibbonBalloons$State;") (by decide +kernel)) (fun _ h9 => h9) rfl dX2_forgetOldest_16 ?_
  refine lv_iload_n hx hb dX2_forgetOldest_19 rfl (lv_at hl 0 rfl) ?_
  refine lv_iconst (v := 1) hx hb dX2_forgetOldest_20 (by decide) ?_
  refine lv_isub hx hb dX2_forgetOldest_21 ?_
  refine lv_eqi (y := 4) (by decide) ?_
  refine lv_aload_n hx hb dX2_forgetOldest_22 rfl (lv_at hl 2 rfl) ?_
  refine va_get (D := D) (ci := 2) (v := .ref q1) (C := RX2) (T := TX2) (N := 2) hx hb hts hinX2 hown hK hP 0 rfl rfl 0 (by decide) (hts (.fieldLink RX2 11 "RibbonBalloons$History" "saved" "[LRibbonBalloons$State;") (by decide +kernel)) (fun _ h9 => h9) rfl dX2_forgetOldest_23 ?_
  refine lv_iload_n hx hb dX2_forgetOldest_26 rfl (lv_at hl 0 rfl) ?_
  refine r_aald (r := r5) hx hb hK hP 1 2 5 rfl rfl (by omega) (by omega) hf5 dX2_forgetOldest_27 ?_
  refine r_aast (wn := List.flatten [hsC cS q0 q1 (va_up (va_up (va_up (va_up (va_up f 0 (some r1)) 1 (some r2)) 2 (some r3)) 3 (some r4)) 4 (some r5)) n, [(r0, .inr (4, v0))], [(r1, .inr (4, v1))], [(r2, .inr (4, v2))], [(r3, .inr (4, v3))], [(r4, .inr (4, v4))], [(r5, .inr (4, v5))]]) hx hb hK hP hD hS 1 2 7 4 4 rfl rfl rfl rfl (by omega) (by omega) rfl dX2_forgetOldest_28 (fun H locs hP hD hS => ?_)
  refine lv_iinc (v := 6) (lv' := [(2, .int 6), (1, .ref r0), (0, .ref q0)]) hx hb dX2_forgetOldest_29 hl (k := 0) rfl (by decide) (by decide) rfl (fun ls hl => ?_)
  refine lv_goto (tgt := 9) hx hb dX2_forgetOldest_32 (by decide) ?_
  refine lv_iload_n hx hb dX2_forgetOldest_9 rfl (lv_at hl 0 rfl) ?_
  refine lv_bipush (v := 6) hx hb dX2_forgetOldest_10 (by decide) ?_
  refine lv_icmp_ge (tgt := 35) hx hb dX2_forgetOldest_12 (by decide) (fun _ => ?_) (fun h => absurd (by decide) h)
  refine lv_aload_n hx hb dX2_forgetOldest_35 rfl (lv_at hl 2 rfl) ?_
  refine va_get (D := D) (ci := 2) (v := .ref q1) (C := RX2) (T := TX2) (N := 2) hx hb hts hinX2 hown hK hP 0 rfl rfl 0 (by decide) (hts (.fieldLink RX2 11 "RibbonBalloons$History" "saved" "[LRibbonBalloons$State;") (by decide +kernel)) (fun _ h9 => h9) rfl dX2_forgetOldest_36 ?_
  refine lv_iconst (v := 5) hx hb dX2_forgetOldest_39 (by decide) ?_
  refine lv_aload_n hx hb dX2_forgetOldest_40 rfl (lv_at hl 1 rfl) ?_
  refine r_aast (wn := List.flatten [hsC cS q0 q1 (va_up (va_up (va_up (va_up (va_up (va_up f 0 (some r1)) 1 (some r2)) 2 (some r3)) 3 (some r4)) 4 (some r5)) 5 (some r0)) n, [(r0, .inr (4, v0))], [(r1, .inr (4, v1))], [(r2, .inr (4, v2))], [(r3, .inr (4, v3))], [(r4, .inr (4, v4))], [(r5, .inr (4, v5))]]) hx hb hK hP hD hS 1 2 2 4 5 rfl rfl rfl rfl (by omega) (by omega) rfl dX2_forgetOldest_41 (fun H locs hP hD hS => ?_)
  refine lv_aload_n hx hb dX2_forgetOldest_42 rfl (lv_at hl 2 rfl) ?_
  refine lv_iconst (v := 5) hx hb dX2_forgetOldest_43 (by decide) ?_
  refine va_put (D := D) (ci := 2) (v := .int 5) (ty := .int) (C := RX2) (T := TX2) (N := 2) hx hb hts hinX2 tyX2 tyX2_ok nmX2 hown hK hP hD hS 0 rfl rfl 1 (by decide) (hts (.fieldLink RX2 17 "RibbonBalloons$History" "size" "I") (by decide +kernel)) (fun _ h9 => h9) rfl (by decide +kernel) rfl rfl (Nat.le_of_ble_eq_true rfl) dX2_forgetOldest_44 (fun H locs hP hD hS => ?_)
  have hP : va_P D vwCl (List.flatten [hsC cS q0 q1 (va_up (va_up (va_up (va_up (va_up (va_up f 0 (some r1)) 1 (some r2)) 2 (some r3)) 3 (some r4)) 4 (some r5)) 5 (some r0)) 5, [(r0, .inr (4, v0))], [(r1, .inr (4, v1))], [(r2, .inr (4, v2))], [(r3, .inr (4, v3))], [(r4, .inr (4, v4))], [(r5, .inr (4, v5))]]) _ := hP
  have hD : va_D A (List.flatten [hsC cS q0 q1 (va_up (va_up (va_up (va_up (va_up (va_up f 0 (some r1)) 1 (some r2)) 2 (some r3)) 3 (some r4)) 4 (some r5)) 5 (some r0)) 5, [(r0, .inr (4, v0))], [(r1, .inr (4, v1))], [(r2, .inr (4, v2))], [(r3, .inr (4, v3))], [(r4, .inr (4, v4))], [(r5, .inr (4, v5))]]) := hD
  obtain ⟨hP, hD⟩ := PD_cgq hP hD 1 (rtf f) rfl (fun j hj => rtf_refs hf0 hf1 hf2 hf3 hf4 hf5 hj) (wn := List.flatten [hsC cS q0 q1 (rtf f) 5, [(r0, .inr (4, v0))], [(r1, .inr (4, v1))], [(r2, .inr (4, v2))], [(r3, .inr (4, v3))], [(r4, .inr (4, v4))], [(r5, .inr (4, v5))]]) rfl
  exact hend _ _ _ _ hP hD hS dX2_forgetOldest_47

set_option maxHeartbeats 4000000 in
set_option maxRecDepth 100000 in
theorem c_X2_saveA (l : Launch) (D : va_G) (cI cZ cS cJ : ClassId) (q0 : Nat) (q1 : Nat) (f : Nat → Option Nat) (z : Nat) (c0 : Nat → Nat) (U : Nat → Nat → Int32) (a : Nat → Nat) (S : Nat → Nat → Int32) (hB : ∀ r, r < 7 → S 3 r = 0 ∨ S 3 r = 1) (hz6 : z < 6) (hfz : f z = some (c0 0)) : C0 l yX2_save wsX2_save ({ frames := 3, cells := 0, slots := 0, locals := 60 }) D (tyL cI cZ cS cJ) [.ref q0, .ref (a 0)] (List.flatten [hsC cS q0 q1 f (nI z), stO c0 (U 12 0) (U 12 1) (U 12 2) (U 12 3) (U 12 4) (U 12 5) (U 12 6) (U 12 7), flX cI cZ (c0 1) (c0 2) (c0 3) (c0 4) (c0 5) (c0 6) (c0 7) (c0 8) (U 0) (U 1) (U 2) (U 3) (U 4) (U 5) (U 6), ntX cI (c0 9) (c0 10) (c0 11) (c0 12) (U 7) (U 8) (U 9) (U 12 8), daX cI (c0 13) (c0 14) (U 10) (U 11), stO a (S 12 0) (S 12 1) (S 12 2) (S 12 3) (S 12 4) (S 12 5) (S 12 6) (S 12 7), flX cI cZ (a 1) (a 2) (a 3) (a 4) (a 5) (a 6) (a 7) (a 8) (S 0) (S 1) (S 2) (S 3) (S 4) (S 5) (S 6), ntX cI (a 9) (a 10) (a 11) (a 12) (S 7) (S 8) (S 9) (S 12 8), daX cI (a 13) (a 14) (S 10) (S 11)]) none (List.flatten [hsC cS q0 q1 f (nI (z + 1)), stO c0 (S 12 0) (S 12 1) (S 12 2) (S 12 3) (S 12 4) (S 12 5) (S 12 6) (S 12 7), flX cI cZ (c0 1) (c0 2) (c0 3) (c0 4) (c0 5) (c0 6) (c0 7) (c0 8) (S 0) (S 1) (S 2) (S 3) (S 4) (S 5) (S 6), ntX cI (c0 9) (c0 10) (c0 11) (c0 12) (S 7) (S 8) (S 9) (S 12 8), daX cI (c0 13) (c0 14) (S 10) (S 11), stO a (S 12 0) (S 12 1) (S 12 2) (S 12 3) (S 12 4) (S 12 5) (S 12 6) (S 12 7), flX cI cZ (a 1) (a 2) (a 3) (a 4) (a 5) (a 6) (a 7) (a 8) (S 0) (S 1) (S 2) (S 3) (S 4) (S 5) (S 6), ntX cI (a 9) (a 10) (a 11) (a 12) (S 7) (S 8) (S 9) (S 12 8), daX cI (a 13) (a 14) (S 10) (S 11)]) 0 0 := by
  refine C0_void (cc := cX2_save) (maxL := 2) (by decide) rfl (Nat.le_of_ble_eq_true rfl) ?_
  intro p e s m below meth c A ls Q X hnm hK hP hD hS hA hl hend
  have X : CallFix p m c cX2_save 2 s ([.ref q0, .ref (a 0)] : List Value).toArray wsX2_save RX2 := X
  obtain ⟨hx, hb, hml, hown, hts⟩ := id X
  have hl : lv_has ls 2 [(0, .ref q0), (1, .ref (a 0))] := hl
  have hinX2 : ∀ w ∈ u_ws RX2 TX2 2, w ∈ wsX2_save := by decide +kernel
  refine lv_aload_n hx hb dX2_save_0 rfl (lv_at hl 0 rfl) ?_
  refine va_get (D := D) (ci := 2) (v := .int (nI z)) (C := RX2) (T := TX2) (N := 2) hx hb hts hinX2 hown hK hP 0 rfl rfl 1 (by decide) (hts (.fieldLink RX2 17 "RibbonBalloons$History" "size" "I") (by decide +kernel)) (fun _ h9 => h9) rfl dX2_save_1 ?_
  refine lv_bipush (v := 6) hx hb dX2_save_4 (by decide) ?_
  refine n_lt (i := z) (j := 6) (tgt := 13) hx hb (by omega) (by omega) dX2_save_6 (by decide) (fun _ => ?_) (fun h => absurd h (by omega))
  refine lv_aload_n hx hb dX2_save_13 rfl (lv_at hl 0 rfl) ?_
  refine va_get (D := D) (ci := 2) (v := .ref q1) (C := RX2) (T := TX2) (N := 2) hx hb hts hinX2 hown hK hP 0 rfl rfl 0 (by decide) (hts (.fieldLink RX2 11 "RibbonBalloons$History" "saved" "[LRibbonBalloons$State;") (by decide +kernel)) (fun _ h9 => h9) rfl dX2_save_14 ?_
  refine lv_aload_n hx hb dX2_save_17 rfl (lv_at hl 0 rfl) ?_
  refine va_get (D := D) (ci := 2) (v := .int (nI z)) (C := RX2) (T := TX2) (N := 2) hx hb hts hinX2 hown hK hP 0 rfl rfl 1 (by decide) (hts (.fieldLink RX2 17 "RibbonBalloons$History" "size" "I") (by decide +kernel)) (fun _ h9 => h9) rfl dX2_save_18 ?_
  refine r_aald (r := (c0 0)) hx hb hK hP 1 2 z rfl rfl (by omega) (by omega) hfz dX2_save_21 ?_
  refine lv_aload_n hx hb dX2_save_22 rfl (lv_at hl 1 rfl) ?_
  refine kcallV (As := [.ref (a 0)]) (rest := []) (Wn := [hsC cS q0 q1 f (nI z), stO c0 (S 12 0) (S 12 1) (S 12 2) (S 12 3) (S 12 4) (S 12 5) (S 12 6) (S 12 7), flX cI cZ (c0 1) (c0 2) (c0 3) (c0 4) (c0 5) (c0 6) (c0 7) (c0 8) (S 0) (S 1) (S 2) (S 3) (S 4) (S 5) (S 6), ntX cI (c0 9) (c0 10) (c0 11) (c0 12) (S 7) (S 8) (S 9) (S 12 8), daX cI (c0 13) (c0 14) (S 10) (S 11), stO a (S 12 0) (S 12 1) (S 12 2) (S 12 3) (S 12 4) (S 12 5) (S 12 6) (S 12 7), flX cI cZ (a 1) (a 2) (a 3) (a 4) (a 5) (a 6) (a 7) (a 8) (S 0) (S 1) (S 2) (S 3) (S 4) (S 5) (S 6), ntX cI (a 9) (a 10) (a 11) (a 12) (S 7) (S 8) (S 9) (S 12 8), daX cI (a 13) (a 14) (S 10) (S 11)]) X (c_X4_copyFrom l D cI cZ cS cJ c0 U a S hB) (cwV 1 hts gX2_save_X4_copyFrom rfl rfl rfl (by decide +kernel) ⟨Nat.le_of_ble_eq_true rfl, Nat.le_of_ble_eq_true rfl⟩) hK hP hD hS hA [1, 2, 3, 4, 5, 6, 7, 8] rfl (by decide +kernel) rfl rfl rfl 2 4 rfl rfl rfl hl.1 rfl (Nat.le_of_ble_eq_true rfl) dX2_save_23 ⟨Nat.le_of_ble_eq_true rfl, Nat.le_of_ble_eq_true rfl⟩ (fun H locs hP hD hS => ?_)
  refine lv_aload_n hx hb dX2_save_26 rfl (lv_at hl 0 rfl) ?_
  refine lv_dup hx hb dX2_save_27 rfl ?_
  refine va_get (D := D) (ci := 2) (v := .int (nI z)) (C := RX2) (T := TX2) (N := 2) hx hb hts hinX2 hown hK hP 0 rfl rfl 1 (by decide) (hts (.fieldLink RX2 17 "RibbonBalloons$History" "size" "I") (by decide +kernel)) (fun _ h9 => h9) rfl dX2_save_28 ?_
  refine lv_iconst (v := 1) hx hb dX2_save_31 (by decide) ?_
  refine lv_iadd hx hb dX2_save_32 ?_
  refine lv_eqi (y := nI (z + 1)) (nI_add _ _) ?_
  refine va_put (D := D) (ci := 2) (v := .int (nI (z + 1))) (ty := .int) (C := RX2) (T := TX2) (N := 2) hx hb hts hinX2 tyX2 tyX2_ok nmX2 hown hK hP hD hS 0 rfl rfl 1 (by decide) (hts (.fieldLink RX2 17 "RibbonBalloons$History" "size" "I") (by decide +kernel)) (fun _ h9 => h9) rfl (by decide +kernel) rfl rfl (Nat.le_of_ble_eq_true rfl) dX2_save_33 (fun H locs hP hD hS => ?_)
  have hP : va_P D vwCl (List.flatten [hsC cS q0 q1 f (nI (z + 1)), stO c0 (S 12 0) (S 12 1) (S 12 2) (S 12 3) (S 12 4) (S 12 5) (S 12 6) (S 12 7), flX cI cZ (c0 1) (c0 2) (c0 3) (c0 4) (c0 5) (c0 6) (c0 7) (c0 8) (S 0) (S 1) (S 2) (S 3) (S 4) (S 5) (S 6), ntX cI (c0 9) (c0 10) (c0 11) (c0 12) (S 7) (S 8) (S 9) (S 12 8), daX cI (c0 13) (c0 14) (S 10) (S 11), stO a (S 12 0) (S 12 1) (S 12 2) (S 12 3) (S 12 4) (S 12 5) (S 12 6) (S 12 7), flX cI cZ (a 1) (a 2) (a 3) (a 4) (a 5) (a 6) (a 7) (a 8) (S 0) (S 1) (S 2) (S 3) (S 4) (S 5) (S 6), ntX cI (a 9) (a 10) (a 11) (a 12) (S 7) (S 8) (S 9) (S 12 8), daX cI (a 13) (a 14) (S 10) (S 11)]) _ := hP
  have hD : va_D A (List.flatten [hsC cS q0 q1 f (nI (z + 1)), stO c0 (S 12 0) (S 12 1) (S 12 2) (S 12 3) (S 12 4) (S 12 5) (S 12 6) (S 12 7), flX cI cZ (c0 1) (c0 2) (c0 3) (c0 4) (c0 5) (c0 6) (c0 7) (c0 8) (S 0) (S 1) (S 2) (S 3) (S 4) (S 5) (S 6), ntX cI (c0 9) (c0 10) (c0 11) (c0 12) (S 7) (S 8) (S 9) (S 12 8), daX cI (c0 13) (c0 14) (S 10) (S 11), stO a (S 12 0) (S 12 1) (S 12 2) (S 12 3) (S 12 4) (S 12 5) (S 12 6) (S 12 7), flX cI cZ (a 1) (a 2) (a 3) (a 4) (a 5) (a 6) (a 7) (a 8) (S 0) (S 1) (S 2) (S 3) (S 4) (S 5) (S 6), ntX cI (a 9) (a 10) (a 11) (a 12) (S 7) (S 8) (S 9) (S 12 8), daX cI (a 13) (a 14) (S 10) (S 11)]) := hD
  exact hend _ _ _ _ hP hD hS dX2_save_36

set_option maxHeartbeats 4000000 in
set_option maxRecDepth 100000 in
theorem c_X2_saveB (l : Launch) (D : va_G) (cI cZ cS cJ : ClassId) (q0 : Nat) (q1 : Nat) (f : Nat → Option Nat) (r1 : Nat) (r2 : Nat) (r3 : Nat) (r4 : Nat) (r5 : Nat) (v1 : List Value) (v2 : List Value) (v3 : List Value) (v4 : List Value) (v5 : List Value) (c0 : Nat → Nat) (U : Nat → Nat → Int32) (a : Nat → Nat) (S : Nat → Nat → Int32) (hB : ∀ r, r < 7 → S 3 r = 0 ∨ S 3 r = 1) (hf0 : f 0 = some (c0 0)) (hf1 : f 1 = some r1) (hf2 : f 2 = some r2) (hf3 : f 3 = some r3) (hf4 : f 4 = some r4) (hf5 : f 5 = some r5) : C0 l yX2_save wsX2_save ({ frames := 3, cells := 0, slots := 0, locals := 60 }) D (tyL cI cZ cS cJ) [.ref q0, .ref (a 0)] (List.flatten [hsC cS q0 q1 f (nI 6), stO c0 (U 12 0) (U 12 1) (U 12 2) (U 12 3) (U 12 4) (U 12 5) (U 12 6) (U 12 7), flX cI cZ (c0 1) (c0 2) (c0 3) (c0 4) (c0 5) (c0 6) (c0 7) (c0 8) (U 0) (U 1) (U 2) (U 3) (U 4) (U 5) (U 6), ntX cI (c0 9) (c0 10) (c0 11) (c0 12) (U 7) (U 8) (U 9) (U 12 8), daX cI (c0 13) (c0 14) (U 10) (U 11), [(r1, .inr (4, v1))], [(r2, .inr (4, v2))], [(r3, .inr (4, v3))], [(r4, .inr (4, v4))], [(r5, .inr (4, v5))], stO a (S 12 0) (S 12 1) (S 12 2) (S 12 3) (S 12 4) (S 12 5) (S 12 6) (S 12 7), flX cI cZ (a 1) (a 2) (a 3) (a 4) (a 5) (a 6) (a 7) (a 8) (S 0) (S 1) (S 2) (S 3) (S 4) (S 5) (S 6), ntX cI (a 9) (a 10) (a 11) (a 12) (S 7) (S 8) (S 9) (S 12 8), daX cI (a 13) (a 14) (S 10) (S 11)]) none (List.flatten [hsC cS q0 q1 (rtf f) (nI 6), stO c0 (S 12 0) (S 12 1) (S 12 2) (S 12 3) (S 12 4) (S 12 5) (S 12 6) (S 12 7), flX cI cZ (c0 1) (c0 2) (c0 3) (c0 4) (c0 5) (c0 6) (c0 7) (c0 8) (S 0) (S 1) (S 2) (S 3) (S 4) (S 5) (S 6), ntX cI (c0 9) (c0 10) (c0 11) (c0 12) (S 7) (S 8) (S 9) (S 12 8), daX cI (c0 13) (c0 14) (S 10) (S 11), [(r1, .inr (4, v1))], [(r2, .inr (4, v2))], [(r3, .inr (4, v3))], [(r4, .inr (4, v4))], [(r5, .inr (4, v5))], stO a (S 12 0) (S 12 1) (S 12 2) (S 12 3) (S 12 4) (S 12 5) (S 12 6) (S 12 7), flX cI cZ (a 1) (a 2) (a 3) (a 4) (a 5) (a 6) (a 7) (a 8) (S 0) (S 1) (S 2) (S 3) (S 4) (S 5) (S 6), ntX cI (a 9) (a 10) (a 11) (a 12) (S 7) (S 8) (S 9) (S 12 8), daX cI (a 13) (a 14) (S 10) (S 11)]) 0 0 := by
  refine C0_void (cc := cX2_save) (maxL := 2) (by decide) rfl (Nat.le_of_ble_eq_true rfl) ?_
  intro p e s m below meth c A ls Q X hnm hK hP hD hS hA hl hend
  have X : CallFix p m c cX2_save 2 s ([.ref q0, .ref (a 0)] : List Value).toArray wsX2_save RX2 := X
  obtain ⟨hx, hb, hml, hown, hts⟩ := id X
  have hl : lv_has ls 2 [(0, .ref q0), (1, .ref (a 0))] := hl
  have hinX2 : ∀ w ∈ u_ws RX2 TX2 2, w ∈ wsX2_save := by decide +kernel
  refine lv_aload_n hx hb dX2_save_0 rfl (lv_at hl 0 rfl) ?_
  refine va_get (D := D) (ci := 2) (v := .int (nI 6)) (C := RX2) (T := TX2) (N := 2) hx hb hts hinX2 hown hK hP 0 rfl rfl 1 (by decide) (hts (.fieldLink RX2 17 "RibbonBalloons$History" "size" "I") (by decide +kernel)) (fun _ h9 => h9) rfl dX2_save_1 ?_
  refine lv_bipush (v := 6) hx hb dX2_save_4 (by decide) ?_
  refine lv_icmp_lt (tgt := 13) hx hb dX2_save_6 (by decide) (fun h => absurd h (by decide)) (fun _ => ?_)
  refine lv_aload_n hx hb dX2_save_9 rfl (lv_at hl 0 rfl) ?_
  refine kcallV (As := []) (rest := []) (Wn := [hsC cS q0 q1 (rtf f) 5, stO c0 (U 12 0) (U 12 1) (U 12 2) (U 12 3) (U 12 4) (U 12 5) (U 12 6) (U 12 7), flX cI cZ (c0 1) (c0 2) (c0 3) (c0 4) (c0 5) (c0 6) (c0 7) (c0 8) (U 0) (U 1) (U 2) (U 3) (U 4) (U 5) (U 6), ntX cI (c0 9) (c0 10) (c0 11) (c0 12) (U 7) (U 8) (U 9) (U 12 8), daX cI (c0 13) (c0 14) (U 10) (U 11), [(r1, .inr (4, v1))], [(r2, .inr (4, v2))], [(r3, .inr (4, v3))], [(r4, .inr (4, v4))], [(r5, .inr (4, v5))], stO a (S 12 0) (S 12 1) (S 12 2) (S 12 3) (S 12 4) (S 12 5) (S 12 6) (S 12 7), flX cI cZ (a 1) (a 2) (a 3) (a 4) (a 5) (a 6) (a 7) (a 8) (S 0) (S 1) (S 2) (S 3) (S 4) (S 5) (S 6), ntX cI (a 9) (a 10) (a 11) (a 12) (S 7) (S 8) (S 9) (S 12 8), daX cI (a 13) (a 14) (S 10) (S 11)]) X (c_X2_forgetOldest l D cI cZ cS cJ q0 q1 f (nI 6) (c0 0) r1 r2 r3 r4 r5 ([.ref (c0 1), .ref (c0 9), .ref (c0 13), .ref (c0 14), .int (U 12 0), .int (U 12 1), .int (U 12 2), .int (U 12 3), .int (U 12 4), .int (U 12 5), .int (U 12 6), .int (U 12 7)]) v1 v2 v3 v4 v5 hf0 hf1 hf2 hf3 hf4 hf5) (cwV 0 hts gX2_save_X2_forgetOldest rfl rfl rfl (by decide +kernel) ⟨Nat.le_of_ble_eq_true rfl, Nat.le_of_ble_eq_true rfl⟩) hK hP hD hS hA [0, 1, 5, 6, 7, 8, 9] rfl (by decide +kernel) rfl rfl rfl 0 2 rfl rfl rfl hl.1 rfl (Nat.le_of_ble_eq_true rfl) dX2_save_10 ⟨Nat.le_of_ble_eq_true rfl, Nat.le_of_ble_eq_true rfl⟩ (fun H locs hP hD hS => ?_)
  refine lv_aload_n hx hb dX2_save_13 rfl (lv_at hl 0 rfl) ?_
  refine va_get (D := D) (ci := 2) (v := .ref q1) (C := RX2) (T := TX2) (N := 2) hx hb hts hinX2 hown hK hP 0 rfl rfl 0 (by decide) (hts (.fieldLink RX2 11 "RibbonBalloons$History" "saved" "[LRibbonBalloons$State;") (by decide +kernel)) (fun _ h9 => h9) rfl dX2_save_14 ?_
  refine lv_aload_n hx hb dX2_save_17 rfl (lv_at hl 0 rfl) ?_
  refine va_get (D := D) (ci := 2) (v := .int 5) (C := RX2) (T := TX2) (N := 2) hx hb hts hinX2 hown hK hP 0 rfl rfl 1 (by decide) (hts (.fieldLink RX2 17 "RibbonBalloons$History" "size" "I") (by decide +kernel)) (fun _ h9 => h9) rfl dX2_save_18 ?_
  refine r_aald (r := (c0 0)) hx hb hK hP 1 2 5 rfl rfl (by omega) (by omega) hf0 dX2_save_21 ?_
  refine lv_aload_n hx hb dX2_save_22 rfl (lv_at hl 1 rfl) ?_
  refine kcallV (As := [.ref (a 0)]) (rest := []) (Wn := [hsC cS q0 q1 (rtf f) 5, stO c0 (S 12 0) (S 12 1) (S 12 2) (S 12 3) (S 12 4) (S 12 5) (S 12 6) (S 12 7), flX cI cZ (c0 1) (c0 2) (c0 3) (c0 4) (c0 5) (c0 6) (c0 7) (c0 8) (S 0) (S 1) (S 2) (S 3) (S 4) (S 5) (S 6), ntX cI (c0 9) (c0 10) (c0 11) (c0 12) (S 7) (S 8) (S 9) (S 12 8), daX cI (c0 13) (c0 14) (S 10) (S 11), [(r1, .inr (4, v1))], [(r2, .inr (4, v2))], [(r3, .inr (4, v3))], [(r4, .inr (4, v4))], [(r5, .inr (4, v5))], stO a (S 12 0) (S 12 1) (S 12 2) (S 12 3) (S 12 4) (S 12 5) (S 12 6) (S 12 7), flX cI cZ (a 1) (a 2) (a 3) (a 4) (a 5) (a 6) (a 7) (a 8) (S 0) (S 1) (S 2) (S 3) (S 4) (S 5) (S 6), ntX cI (a 9) (a 10) (a 11) (a 12) (S 7) (S 8) (S 9) (S 12 8), daX cI (a 13) (a 14) (S 10) (S 11)]) X (c_X4_copyFrom l D cI cZ cS cJ c0 U a S hB) (cwV 1 hts gX2_save_X4_copyFrom rfl rfl rfl (by decide +kernel) ⟨Nat.le_of_ble_eq_true rfl, Nat.le_of_ble_eq_true rfl⟩) hK hP hD hS hA [1, 2, 3, 4, 10, 11, 12, 13] rfl (by decide +kernel) rfl rfl rfl 2 4 rfl rfl rfl hl.1 rfl (Nat.le_of_ble_eq_true rfl) dX2_save_23 ⟨Nat.le_of_ble_eq_true rfl, Nat.le_of_ble_eq_true rfl⟩ (fun H locs hP hD hS => ?_)
  refine lv_aload_n hx hb dX2_save_26 rfl (lv_at hl 0 rfl) ?_
  refine lv_dup hx hb dX2_save_27 rfl ?_
  refine va_get (D := D) (ci := 2) (v := .int 5) (C := RX2) (T := TX2) (N := 2) hx hb hts hinX2 hown hK hP 0 rfl rfl 1 (by decide) (hts (.fieldLink RX2 17 "RibbonBalloons$History" "size" "I") (by decide +kernel)) (fun _ h9 => h9) rfl dX2_save_28 ?_
  refine lv_iconst (v := 1) hx hb dX2_save_31 (by decide) ?_
  refine lv_iadd hx hb dX2_save_32 ?_
  refine lv_eqi (y := 6) (by decide) ?_
  refine va_put (D := D) (ci := 2) (v := .int 6) (ty := .int) (C := RX2) (T := TX2) (N := 2) hx hb hts hinX2 tyX2 tyX2_ok nmX2 hown hK hP hD hS 0 rfl rfl 1 (by decide) (hts (.fieldLink RX2 17 "RibbonBalloons$History" "size" "I") (by decide +kernel)) (fun _ h9 => h9) rfl (by decide +kernel) rfl rfl (Nat.le_of_ble_eq_true rfl) dX2_save_33 (fun H locs hP hD hS => ?_)
  have hP : va_P D vwCl (List.flatten [hsC cS q0 q1 (rtf f) 6, stO c0 (S 12 0) (S 12 1) (S 12 2) (S 12 3) (S 12 4) (S 12 5) (S 12 6) (S 12 7), flX cI cZ (c0 1) (c0 2) (c0 3) (c0 4) (c0 5) (c0 6) (c0 7) (c0 8) (S 0) (S 1) (S 2) (S 3) (S 4) (S 5) (S 6), ntX cI (c0 9) (c0 10) (c0 11) (c0 12) (S 7) (S 8) (S 9) (S 12 8), daX cI (c0 13) (c0 14) (S 10) (S 11), [(r1, .inr (4, v1))], [(r2, .inr (4, v2))], [(r3, .inr (4, v3))], [(r4, .inr (4, v4))], [(r5, .inr (4, v5))], stO a (S 12 0) (S 12 1) (S 12 2) (S 12 3) (S 12 4) (S 12 5) (S 12 6) (S 12 7), flX cI cZ (a 1) (a 2) (a 3) (a 4) (a 5) (a 6) (a 7) (a 8) (S 0) (S 1) (S 2) (S 3) (S 4) (S 5) (S 6), ntX cI (a 9) (a 10) (a 11) (a 12) (S 7) (S 8) (S 9) (S 12 8), daX cI (a 13) (a 14) (S 10) (S 11)]) _ := hP
  have hD : va_D A (List.flatten [hsC cS q0 q1 (rtf f) 6, stO c0 (S 12 0) (S 12 1) (S 12 2) (S 12 3) (S 12 4) (S 12 5) (S 12 6) (S 12 7), flX cI cZ (c0 1) (c0 2) (c0 3) (c0 4) (c0 5) (c0 6) (c0 7) (c0 8) (S 0) (S 1) (S 2) (S 3) (S 4) (S 5) (S 6), ntX cI (c0 9) (c0 10) (c0 11) (c0 12) (S 7) (S 8) (S 9) (S 12 8), daX cI (c0 13) (c0 14) (S 10) (S 11), [(r1, .inr (4, v1))], [(r2, .inr (4, v2))], [(r3, .inr (4, v3))], [(r4, .inr (4, v4))], [(r5, .inr (4, v5))], stO a (S 12 0) (S 12 1) (S 12 2) (S 12 3) (S 12 4) (S 12 5) (S 12 6) (S 12 7), flX cI cZ (a 1) (a 2) (a 3) (a 4) (a 5) (a 6) (a 7) (a 8) (S 0) (S 1) (S 2) (S 3) (S 4) (S 5) (S 6), ntX cI (a 9) (a 10) (a 11) (a 12) (S 7) (S 8) (S 9) (S 12 8), daX cI (a 13) (a 14) (S 10) (S 11)]) := hD
  have hP : va_P D vwCl (List.flatten [hsC cS q0 q1 (rtf f) (nI 6), stO c0 (S 12 0) (S 12 1) (S 12 2) (S 12 3) (S 12 4) (S 12 5) (S 12 6) (S 12 7), flX cI cZ (c0 1) (c0 2) (c0 3) (c0 4) (c0 5) (c0 6) (c0 7) (c0 8) (S 0) (S 1) (S 2) (S 3) (S 4) (S 5) (S 6), ntX cI (c0 9) (c0 10) (c0 11) (c0 12) (S 7) (S 8) (S 9) (S 12 8), daX cI (c0 13) (c0 14) (S 10) (S 11), [(r1, .inr (4, v1))], [(r2, .inr (4, v2))], [(r3, .inr (4, v3))], [(r4, .inr (4, v4))], [(r5, .inr (4, v5))], stO a (S 12 0) (S 12 1) (S 12 2) (S 12 3) (S 12 4) (S 12 5) (S 12 6) (S 12 7), flX cI cZ (a 1) (a 2) (a 3) (a 4) (a 5) (a 6) (a 7) (a 8) (S 0) (S 1) (S 2) (S 3) (S 4) (S 5) (S 6), ntX cI (a 9) (a 10) (a 11) (a 12) (S 7) (S 8) (S 9) (S 12 8), daX cI (a 13) (a 14) (S 10) (S 11)]) _ := hP
  have hD : va_D A (List.flatten [hsC cS q0 q1 (rtf f) (nI 6), stO c0 (S 12 0) (S 12 1) (S 12 2) (S 12 3) (S 12 4) (S 12 5) (S 12 6) (S 12 7), flX cI cZ (c0 1) (c0 2) (c0 3) (c0 4) (c0 5) (c0 6) (c0 7) (c0 8) (S 0) (S 1) (S 2) (S 3) (S 4) (S 5) (S 6), ntX cI (c0 9) (c0 10) (c0 11) (c0 12) (S 7) (S 8) (S 9) (S 12 8), daX cI (c0 13) (c0 14) (S 10) (S 11), [(r1, .inr (4, v1))], [(r2, .inr (4, v2))], [(r3, .inr (4, v3))], [(r4, .inr (4, v4))], [(r5, .inr (4, v5))], stO a (S 12 0) (S 12 1) (S 12 2) (S 12 3) (S 12 4) (S 12 5) (S 12 6) (S 12 7), flX cI cZ (a 1) (a 2) (a 3) (a 4) (a 5) (a 6) (a 7) (a 8) (S 0) (S 1) (S 2) (S 3) (S 4) (S 5) (S 6), ntX cI (a 9) (a 10) (a 11) (a 12) (S 7) (S 8) (S 9) (S 12 8), daX cI (a 13) (a 14) (S 10) (S 11)]) := hD
  exact hend _ _ _ _ hP hD hS dX2_save_36

set_option maxHeartbeats 4000000 in
set_option maxRecDepth 100000 in
theorem c_X2_restore (l : Launch) (D : va_G) (cI cZ cS cJ : ClassId) (q0 : Nat) (q1 : Nat) (f : Nat → Option Nat) (z : Nat) (c0 : Nat → Nat) (U : Nat → Nat → Int32) (a : Nat → Nat) (S : Nat → Nat → Int32) (hB : ∀ r, r < 7 → U 3 r = 0 ∨ U 3 r = 1) (hz0 : 0 < z) (hz6 : z ≤ 6) (hfz : f (z - 1) = some (c0 0)) : C0 l yX2_restore wsX2_restore ({ frames := 3, cells := 0, slots := 0, locals := 60 }) D (tyL cI cZ cS cJ) [.ref q0, .ref (a 0)] (List.flatten [hsC cS q0 q1 f (nI z), stO c0 (U 12 0) (U 12 1) (U 12 2) (U 12 3) (U 12 4) (U 12 5) (U 12 6) (U 12 7), flX cI cZ (c0 1) (c0 2) (c0 3) (c0 4) (c0 5) (c0 6) (c0 7) (c0 8) (U 0) (U 1) (U 2) (U 3) (U 4) (U 5) (U 6), ntX cI (c0 9) (c0 10) (c0 11) (c0 12) (U 7) (U 8) (U 9) (U 12 8), daX cI (c0 13) (c0 14) (U 10) (U 11), stO a (S 12 0) (S 12 1) (S 12 2) (S 12 3) (S 12 4) (S 12 5) (S 12 6) (S 12 7), flX cI cZ (a 1) (a 2) (a 3) (a 4) (a 5) (a 6) (a 7) (a 8) (S 0) (S 1) (S 2) (S 3) (S 4) (S 5) (S 6), ntX cI (a 9) (a 10) (a 11) (a 12) (S 7) (S 8) (S 9) (S 12 8), daX cI (a 13) (a 14) (S 10) (S 11)]) none (List.flatten [hsC cS q0 q1 f (nI (z - 1)), stO c0 (U 12 0) (U 12 1) (U 12 2) (U 12 3) (U 12 4) (U 12 5) (U 12 6) (U 12 7), flX cI cZ (c0 1) (c0 2) (c0 3) (c0 4) (c0 5) (c0 6) (c0 7) (c0 8) (U 0) (U 1) (U 2) (U 3) (U 4) (U 5) (U 6), ntX cI (c0 9) (c0 10) (c0 11) (c0 12) (U 7) (U 8) (U 9) (U 12 8), daX cI (c0 13) (c0 14) (U 10) (U 11), stO a (U 12 0) (U 12 1) (U 12 2) (U 12 3) (U 12 4) (U 12 5) (U 12 6) (U 12 7), flX cI cZ (a 1) (a 2) (a 3) (a 4) (a 5) (a 6) (a 7) (a 8) (U 0) (U 1) (U 2) (U 3) (U 4) (U 5) (U 6), ntX cI (a 9) (a 10) (a 11) (a 12) (U 7) (U 8) (U 9) (U 12 8), daX cI (a 13) (a 14) (U 10) (U 11)]) 0 0 := by
  refine C0_void (cc := cX2_restore) (maxL := 2) (by decide) rfl (Nat.le_of_ble_eq_true rfl) ?_
  intro p e s m below meth c A ls Q X hnm hK hP hD hS hA hl hend
  have X : CallFix p m c cX2_restore 2 s ([.ref q0, .ref (a 0)] : List Value).toArray wsX2_restore RX2 := X
  obtain ⟨hx, hb, hml, hown, hts⟩ := id X
  have hl : lv_has ls 2 [(0, .ref q0), (1, .ref (a 0))] := hl
  have hinX2 : ∀ w ∈ u_ws RX2 TX2 2, w ∈ wsX2_restore := by decide +kernel
  refine lv_aload_n hx hb dX2_restore_0 rfl (lv_at hl 0 rfl) ?_
  refine va_get (D := D) (ci := 2) (v := .int (nI z)) (C := RX2) (T := TX2) (N := 2) hx hb hts hinX2 hown hK hP 0 rfl rfl 1 (by decide) (hts (.fieldLink RX2 17 "RibbonBalloons$History" "size" "I") (by decide +kernel)) (fun _ h9 => h9) rfl dX2_restore_1 ?_
  refine n_ifle (i := z) (tgt := 30) hx hb (by omega) dX2_restore_4 (by decide) (fun h => absurd h (by omega)) (fun _ => ?_)
  refine lv_aload_n hx hb dX2_restore_7 rfl (lv_at hl 0 rfl) ?_
  refine lv_dup hx hb dX2_restore_8 rfl ?_
  refine va_get (D := D) (ci := 2) (v := .int (nI z)) (C := RX2) (T := TX2) (N := 2) hx hb hts hinX2 hown hK hP 0 rfl rfl 1 (by decide) (hts (.fieldLink RX2 17 "RibbonBalloons$History" "size" "I") (by decide +kernel)) (fun _ h9 => h9) rfl dX2_restore_9 ?_
  refine lv_iconst (v := 1) hx hb dX2_restore_12 (by decide) ?_
  refine lv_isub hx hb dX2_restore_13 ?_
  refine lv_eqi (y := nI (z - 1)) (pk_sub (a := z) (b := 1) (by omega)) ?_
  refine va_put (D := D) (ci := 2) (v := .int (nI (z - 1))) (ty := .int) (C := RX2) (T := TX2) (N := 2) hx hb hts hinX2 tyX2 tyX2_ok nmX2 hown hK hP hD hS 0 rfl rfl 1 (by decide) (hts (.fieldLink RX2 17 "RibbonBalloons$History" "size" "I") (by decide +kernel)) (fun _ h9 => h9) rfl (by decide +kernel) rfl rfl (Nat.le_of_ble_eq_true rfl) dX2_restore_14 (fun H locs hP hD hS => ?_)
  have hP : va_P D vwCl (List.flatten [hsC cS q0 q1 f (nI (z - 1)), stO c0 (U 12 0) (U 12 1) (U 12 2) (U 12 3) (U 12 4) (U 12 5) (U 12 6) (U 12 7), flX cI cZ (c0 1) (c0 2) (c0 3) (c0 4) (c0 5) (c0 6) (c0 7) (c0 8) (U 0) (U 1) (U 2) (U 3) (U 4) (U 5) (U 6), ntX cI (c0 9) (c0 10) (c0 11) (c0 12) (U 7) (U 8) (U 9) (U 12 8), daX cI (c0 13) (c0 14) (U 10) (U 11), stO a (S 12 0) (S 12 1) (S 12 2) (S 12 3) (S 12 4) (S 12 5) (S 12 6) (S 12 7), flX cI cZ (a 1) (a 2) (a 3) (a 4) (a 5) (a 6) (a 7) (a 8) (S 0) (S 1) (S 2) (S 3) (S 4) (S 5) (S 6), ntX cI (a 9) (a 10) (a 11) (a 12) (S 7) (S 8) (S 9) (S 12 8), daX cI (a 13) (a 14) (S 10) (S 11)]) _ := hP
  have hD : va_D A (List.flatten [hsC cS q0 q1 f (nI (z - 1)), stO c0 (U 12 0) (U 12 1) (U 12 2) (U 12 3) (U 12 4) (U 12 5) (U 12 6) (U 12 7), flX cI cZ (c0 1) (c0 2) (c0 3) (c0 4) (c0 5) (c0 6) (c0 7) (c0 8) (U 0) (U 1) (U 2) (U 3) (U 4) (U 5) (U 6), ntX cI (c0 9) (c0 10) (c0 11) (c0 12) (U 7) (U 8) (U 9) (U 12 8), daX cI (c0 13) (c0 14) (U 10) (U 11), stO a (S 12 0) (S 12 1) (S 12 2) (S 12 3) (S 12 4) (S 12 5) (S 12 6) (S 12 7), flX cI cZ (a 1) (a 2) (a 3) (a 4) (a 5) (a 6) (a 7) (a 8) (S 0) (S 1) (S 2) (S 3) (S 4) (S 5) (S 6), ntX cI (a 9) (a 10) (a 11) (a 12) (S 7) (S 8) (S 9) (S 12 8), daX cI (a 13) (a 14) (S 10) (S 11)]) := hD
  refine lv_aload_n hx hb dX2_restore_17 rfl (lv_at hl 1 rfl) ?_
  refine lv_aload_n hx hb dX2_restore_18 rfl (lv_at hl 0 rfl) ?_
  refine va_get (D := D) (ci := 2) (v := .ref q1) (C := RX2) (T := TX2) (N := 2) hx hb hts hinX2 hown hK hP 0 rfl rfl 0 (by decide) (hts (.fieldLink RX2 11 "RibbonBalloons$History" "saved" "[LRibbonBalloons$State;") (by decide +kernel)) (fun _ h9 => h9) rfl dX2_restore_19 ?_
  refine lv_aload_n hx hb dX2_restore_22 rfl (lv_at hl 0 rfl) ?_
  refine va_get (D := D) (ci := 2) (v := .int (nI (z - 1))) (C := RX2) (T := TX2) (N := 2) hx hb hts hinX2 hown hK hP 0 rfl rfl 1 (by decide) (hts (.fieldLink RX2 17 "RibbonBalloons$History" "size" "I") (by decide +kernel)) (fun _ h9 => h9) rfl dX2_restore_23 ?_
  refine r_aald (r := (c0 0)) hx hb hK hP 1 2 (z - 1) rfl rfl (by omega) (by omega) hfz dX2_restore_26 ?_
  refine kcallV (As := [.ref (c0 0)]) (rest := []) (Wn := [hsC cS q0 q1 f (nI (z - 1)), stO c0 (U 12 0) (U 12 1) (U 12 2) (U 12 3) (U 12 4) (U 12 5) (U 12 6) (U 12 7), flX cI cZ (c0 1) (c0 2) (c0 3) (c0 4) (c0 5) (c0 6) (c0 7) (c0 8) (U 0) (U 1) (U 2) (U 3) (U 4) (U 5) (U 6), ntX cI (c0 9) (c0 10) (c0 11) (c0 12) (U 7) (U 8) (U 9) (U 12 8), daX cI (c0 13) (c0 14) (U 10) (U 11), stO a (U 12 0) (U 12 1) (U 12 2) (U 12 3) (U 12 4) (U 12 5) (U 12 6) (U 12 7), flX cI cZ (a 1) (a 2) (a 3) (a 4) (a 5) (a 6) (a 7) (a 8) (U 0) (U 1) (U 2) (U 3) (U 4) (U 5) (U 6), ntX cI (a 9) (a 10) (a 11) (a 12) (U 7) (U 8) (U 9) (U 12 8), daX cI (a 13) (a 14) (U 10) (U 11)]) X (c_X4_copyFrom l D cI cZ cS cJ a S c0 U hB) (cwV 1 hts gX2_restore_X4_copyFrom rfl rfl rfl (by decide +kernel) ⟨Nat.le_of_ble_eq_true rfl, Nat.le_of_ble_eq_true rfl⟩) hK hP hD hS hA [5, 6, 7, 8, 1, 2, 3, 4] rfl (by decide +kernel) rfl rfl rfl 17 4 rfl rfl rfl hl.1 rfl (Nat.le_of_ble_eq_true rfl) dX2_restore_27 ⟨Nat.le_of_ble_eq_true rfl, Nat.le_of_ble_eq_true rfl⟩ (fun H locs hP hD hS => ?_)
  exact hend _ _ _ _ hP hD hS dX2_restore_30

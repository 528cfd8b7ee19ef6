set_option maxHeartbeats 4000000 in
set_option maxRecDepth 100000 in
theorem c_X7_rises (l : Launch) (D : va_G) (cI cZ cS cJ : ClassId) (m0 : Nat) (m1 : Nat) (m2 : Nat) (m3 : Nat) (th : Int32) (sv : Int32) (kp : Int32) (ln : Int32) (ca : Int32) (lt : Int32) (fi : Int32) (sd : Int32) (hs : Int64) (B : Nat → Nat → Nat → Int32) (T : Nat → Int32) (h : Nat → Int32) (a : Nat) (ha : a ≤ 8) (hT : ∀ r, r < 7 → B a 3 r = 0 ∨ B a 3 r = 1) : C0 l yX7_rises wsX7_rises ({ frames := 3, cells := 0, slots := 0, locals := 68 }) D (tyL cI cZ cS cJ) [.ref m0, .int (nI (130 * a))] (List.flatten [mdO m0 m1 m2 m3 th sv kp ln ca lt fi sd hs, arC cI m1 1170 (enc B), arC cI m2 60 T, arC cI m3 8 h]) none (List.flatten [mdO m0 m1 m2 m3 th sv kp ln ca lt fi sd hs, arC cI m1 1170 (enc B), arC cI m2 60 T, arC cI m3 8 (ht (B a))]) 0 0 := by
  refine C0_void (cc := cX7_rises) (maxL := 3) (by decide) rfl (Nat.le_of_ble_eq_true rfl) ?_
  intro p e s m below meth c A ls Q X hnm hK hP hD hS hA hl hend
  have X : CallFix p m c cX7_rises 3 s ([.ref m0, .int (nI (130 * a))] : List Value).toArray wsX7_rises RX7 := X
  obtain ⟨hx, hb, hml, hown, hts⟩ := id X
  have hl : lv_has ls 3 [(0, .ref m0), (1, .int (nI (130 * a)))] := hl
  have hinX7 : ∀ w ∈ u_ws RX7 TX7 12, w ∈ wsX7_rises := by decide +kernel
  refine lv_iconst (v := 0) hx hb dX7_rises_0 (by decide) ?_
  refine lv_istore_n (lv' := [(2, .int 0), (0, .ref m0), (1, .int (nI (130 * a)))]) hx hb dX7_rises_1 rfl hl (by decide) rfl (fun ls hl => ?_)
  have lp_2 : ∀ (nn : Nat) (i : Nat), True → (i ≤ 8) → 8 - i < nn → ∀ (H : Heap) (locs : List Loc) (ls : Array Slot), va_P D vwCl (List.flatten [mdO m0 m1 m2 m3 th sv kp ln ca lt fi sd hs, arC cI m1 1170 (enc B), arC cI m2 60 T, arC cI m3 8 (rw1 (B a) h i)]) H → va_D A (List.flatten [mdO m0 m1 m2 m3 th sv kp ln ca lt fi sd hs, arC cI m1 1170 (enc B), arC cI m2 60 T, arC cI m3 8 (rw1 (B a) h i)]) → va_S A s.heap H locs → lv_has ls 3 [(0, .ref m0), (1, .int (nI (130 * a))), (2, .int (nI i))] → W p l e ({ frames := 3, cells := 0, slots := 0, locals := 68 } : Room) s m ([.ref m0, .int (nI (130 * a))] : List Value).toArray below meth c H locs 0 0 Q (F0 m 2 ls []) := by
    intro nn
    induction nn with
    | zero => intro i _ hi hmz; exact absurd hmz (Nat.not_lt_zero _)
    | succ nn ih =>
      intro i _ hi hms H locs ls hP hD hS hl
      refine lv_iload_n hx hb dX7_rises_2 rfl (lv_at hl 2 rfl) ?_
      refine lv_bipush (v := 8) hx hb dX7_rises_3 (by decide) ?_
      refine n_ge (i := i) (j := 8) (tgt := 73) hx hb (by omega) (by omega) dX7_rises_5 (by decide) (fun c5 => ?_) (fun c5 => ?_)
      · skip
        refine lv_bipush (v := 6) hx hb dX7_rises_73 (by decide) ?_
        refine lv_istore_n (lv' := [(2, .int 6), (0, .ref m0), (1, .int (nI (130 * a)))]) hx hb dX7_rises_75 rfl hl (by decide) rfl (fun ls hl => ?_)
        have lp_76 : ∀ (nn : Nat) (k : Nat), True → (k ≤ 7) → k < nn → ∀ (H : Heap) (locs : List Loc) (ls : Array Slot), va_P D vwCl (List.flatten [mdO m0 m1 m2 m3 th sv kp ln ca lt fi sd hs, arC cI m1 1170 (enc B), arC cI m2 60 T, arC cI m3 8 (w3 (B a) k)]) H → va_D A (List.flatten [mdO m0 m1 m2 m3 th sv kp ln ca lt fi sd hs, arC cI m1 1170 (enc B), arC cI m2 60 T, arC cI m3 8 (w3 (B a) k)]) → va_S A s.heap H locs → lv_has ls 3 [(0, .ref m0), (1, .int (nI (130 * a))), (2, .int (nI k - 1))] → W p l e ({ frames := 3, cells := 0, slots := 0, locals := 68 } : Room) s m ([.ref m0, .int (nI (130 * a))] : List Value).toArray below meth c H locs 0 0 Q (F0 m 76 ls []) := by
          intro nn
          induction nn with
          | zero => intro k _ hk hmz; exact absurd hmz (Nat.not_lt_zero _)
          | succ nn ih =>
            intro k _ hk hms H locs ls hP hD hS hl
            refine lv_iload_n hx hb dX7_rises_76 rfl (lv_at hl 2 rfl) ?_
            refine lv_if_lt (tgt := 125) hx hb dX7_rises_77 (by decide) (fun c77 => ?_) (fun c77 => ?_)
            · skip
              obtain rfl := n_neg (by omega) c77
              obtain ⟨hP, hD⟩ := PD_cg hP hD 3 (ht (B a)) rfl (fun j _ => w3_0 (B a) j) (wn := List.flatten [mdO m0 m1 m2 m3 th sv kp ln ca lt fi sd hs, arC cI m1 1170 (enc B), arC cI m2 60 T, arC cI m3 8 (ht (B a))]) rfl
              exact hend _ _ _ _ hP hD hS dX7_rises_125
            · skip
              obtain ⟨t, rfl⟩ := n_nneg c77
              have hl : lv_has ls 3 [(0, .ref m0), (1, .int (nI (130 * a))), (2, .int (nI t))] := lv_re hl 2 (x := nI (t + 1) - 1) (y := nI t) rfl (n_s1 t) rfl
              have hP : va_P D vwCl (List.flatten [mdO m0 m1 m2 m3 th sv kp ln ca lt fi sd hs, arC cI m1 1170 (enc B), arC cI m2 60 T, arC cI m3 8 (w3 (B a) (t + 1))]) _ := hP
              have hD : va_D A (List.flatten [mdO m0 m1 m2 m3 th sv kp ln ca lt fi sd hs, arC cI m1 1170 (enc B), arC cI m2 60 T, arC cI m3 8 (w3 (B a) (t + 1))]) := hD
              refine lv_aload_n hx hb dX7_rises_80 rfl (lv_at hl 0 rfl) ?_
              refine lv_iload_n hx hb dX7_rises_81 rfl (lv_at hl 1 rfl) ?_
              refine lv_iload_n hx hb dX7_rises_82 rfl (lv_at hl 2 rfl) ?_
              refine kcallV (As := [.int (nI (130 * a)), .int (nI t)]) (rest := []) (Wn := [mdO m0 m1 m2 m3 th sv kp ln ca lt fi sd hs, arC cI m1 1170 (enc B), arC cI m2 60 T, arC cI m3 8 (w3 (B a) (t + 1))]) X (c_X7_isTied l D cI cZ cS cJ m0 m1 m2 m3 th sv kp ln ca lt fi sd hs B T (w3 (B a) (t + 1)) a t (by omega) (by omega) hT) (cwV 2 hts gX7_rises_X7_isTied rfl rfl rfl (by decide +kernel) ⟨Nat.le_of_ble_eq_true rfl, Nat.le_of_ble_eq_true rfl⟩) hK hP hD hS hA [0, 1, 2, 3] rfl (by decide +kernel) rfl rfl rfl 0 7 rfl rfl rfl hl.1 rfl (Nat.le_of_ble_eq_true rfl) dX7_rises_83 ⟨Nat.le_of_ble_eq_true rfl, Nat.le_of_ble_eq_true rfl⟩ (fun H locs hP hD hS => ?_)
              refine lv_if_eq (tgt := 119) hx hb dX7_rises_86 (by decide) (fun c86 => ?_) (fun c86 => ?_)
              · skip
                refine lv_iinc (v := nI t - 1) (lv' := [(2, .int (nI t - 1)), (0, .ref m0), (1, .int (nI (130 * a)))]) hx hb dX7_rises_119 hl (k := 2) rfl (n_m1 t) (by decide) rfl (fun ls hl => ?_)
                refine lv_goto (tgt := 76) hx hb dX7_rises_122 (by decide) ?_
                obtain ⟨hP, hD⟩ := PD_cg hP hD 3 (w3 (B a) t) rfl (fun j _ => by first | exact w3_f (by omega) c86 j | exact w3_t (by omega) c86 j) (wn := List.flatten [mdO m0 m1 m2 m3 th sv kp ln ca lt fi sd hs, arC cI m1 1170 (enc B), arC cI m2 60 T, arC cI m3 8 (w3 (B a) t)]) rfl
                exact ih  t trivial (by omega) (by omega) _ _ _ hP hD hS (lv_sub hl [1, 2, 0] rfl)
              · skip
                refine lv_aload_n hx hb dX7_rises_89 rfl (lv_at hl 0 rfl) ?_
                refine va_get (D := D) (ci := 7) (v := .ref m3) (C := RX7) (T := TX7) (N := 12) hx hb hts hinX7 hown hK hP 0 rfl rfl 10 (by decide) (hts (.fieldLink RX7 16 "RibbonBalloonsModel" "heights" "[I") (by decide +kernel)) (fun _ h9 => h9) rfl dX7_rises_90 ?_
                refine lv_iload_n hx hb dX7_rises_93 rfl (lv_at hl 2 rfl) ?_
                refine lv_aload_n hx hb dX7_rises_94 rfl (lv_at hl 0 rfl) ?_
                refine va_get (D := D) (ci := 7) (v := .ref m3) (C := RX7) (T := TX7) (N := 12) hx hb hts hinX7 hown hK hP 0 rfl rfl 10 (by decide) (hts (.fieldLink RX7 16 "RibbonBalloonsModel" "heights" "[I") (by decide +kernel)) (fun _ h9 => h9) rfl dX7_rises_95 ?_
                refine lv_iload_n hx hb dX7_rises_98 rfl (lv_at hl 2 rfl) ?_
                refine r_iald hx hb hK hP 3 0 t (f := w3 (B a) (t + 1)) rfl rfl (by omega) (by omega) dX7_rises_99 ?_
                refine lv_aload_n hx hb dX7_rises_100 rfl (lv_at hl 0 rfl) ?_
                refine va_get (D := D) (ci := 7) (v := .ref m3) (C := RX7) (T := TX7) (N := 12) hx hb hts hinX7 hown hK hP 0 rfl rfl 10 (by decide) (hts (.fieldLink RX7 16 "RibbonBalloonsModel" "heights" "[I") (by decide +kernel)) (fun _ h9 => h9) rfl dX7_rises_101 ?_
                refine lv_iload_n hx hb dX7_rises_104 rfl (lv_at hl 2 rfl) ?_
                refine lv_iconst (v := 1) hx hb dX7_rises_105 (by decide) ?_
                refine lv_iadd hx hb dX7_rises_106 ?_
                refine lv_eqi (y := nI (t + 1)) (nI_add _ _) ?_
                refine r_iald hx hb hK hP 3 0 (t + 1) (f := w3 (B a) (t + 1)) rfl rfl (by omega) (by omega) dX7_rises_107 ?_
                refine lv_aload_n hx hb dX7_rises_108 rfl (lv_at hl 0 rfl) ?_
                refine lv_iload_n hx hb dX7_rises_109 rfl (lv_at hl 1 rfl) ?_
                refine lv_iload_n hx hb dX7_rises_110 rfl (lv_at hl 2 rfl) ?_
                refine kcallV (As := [.int (nI (130 * a)), .int (nI t)]) (rest := [.int ((w3 (B a) (t + 1)) (t + 1)), .int ((w3 (B a) (t + 1)) t), .int (nI t), .ref m3]) (Wn := [mdO m0 m1 m2 m3 th sv kp ln ca lt fi sd hs, arC cI m1 1170 (enc B), arC cI m2 60 T, arC cI m3 8 (w3 (B a) (t + 1))]) X (c_X7_long1 l D cI cZ cS cJ m0 m1 m2 m3 th sv kp ln ca lt fi sd hs B T (w3 (B a) (t + 1)) a t (by omega) (by omega)) (cwV 2 hts gX7_rises_X7_long1 rfl rfl rfl (by decide +kernel) ⟨Nat.le_of_ble_eq_true rfl, Nat.le_of_ble_eq_true rfl⟩) hK hP hD hS hA [0, 1, 2, 3] rfl (by decide +kernel) rfl rfl rfl 0 7 rfl rfl rfl hl.1 rfl (Nat.le_of_ble_eq_true rfl) dX7_rises_111 ⟨Nat.le_of_ble_eq_true rfl, Nat.le_of_ble_eq_true rfl⟩ (fun H locs hP hD hS => ?_)
                refine lv_iadd hx hb dX7_rises_114 ?_
                refine kcallS (As := [.int ((w3 (B a) (t + 1)) t), .int (((w3 (B a) (t + 1)) (t + 1)) + (B a 4 t))]) (rest := [.int (nI t), .ref m3]) (Wn := [mdO m0 m1 m2 m3 th sv kp ln ca lt fi sd hs, arC cI m1 1170 (enc B), arC cI m2 60 T, arC cI m3 8 (w3 (B a) (t + 1))]) X (c_X7_lesser l D cI cZ cS cJ ((w3 (B a) (t + 1)) t) (((w3 (B a) (t + 1)) (t + 1)) + (B a 4 t))) (va_cwS 2 hts gX7_rises_X7_lesser rfl rfl rfl (by decide +kernel) ⟨Nat.le_of_ble_eq_true rfl, Nat.le_of_ble_eq_true rfl⟩) hK hP hD hS hA [] rfl (by decide +kernel) rfl rfl rfl rfl hl.1 rfl (Nat.le_of_ble_eq_true rfl) dX7_rises_115 ⟨Nat.le_of_ble_eq_true rfl, Nat.le_of_ble_eq_true rfl⟩ (fun H locs hP hD hS => ?_)
                refine r_iast hx hb hK hP hD hS 3 0 t (f := w3 (B a) (t + 1)) (x := mn ((w3 (B a) (t + 1)) t) (((w3 (B a) (t + 1)) (t + 1)) + (B a 4 t))) (wn := List.flatten [mdO m0 m1 m2 m3 th sv kp ln ca lt fi sd hs, arC cI m1 1170 (enc B), arC cI m2 60 T, arC cI m3 8 (upd (w3 (B a) (t + 1)) t (mn ((w3 (B a) (t + 1)) t) (((w3 (B a) (t + 1)) (t + 1)) + (B a 4 t))))]) rfl rfl (by omega) (by omega) rfl dX7_rises_118 (fun H locs hP hD hS => ?_)
                refine lv_iinc (v := nI t - 1) (lv' := [(2, .int (nI t - 1)), (0, .ref m0), (1, .int (nI (130 * a)))]) hx hb dX7_rises_119 hl (k := 2) rfl (n_m1 t) (by decide) rfl (fun ls hl => ?_)
                refine lv_goto (tgt := 76) hx hb dX7_rises_122 (by decide) ?_
                obtain ⟨hP, hD⟩ := PD_cg hP hD 3 (w3 (B a) t) rfl (fun j _ => by first | exact w3_f (by omega) c86 j | exact w3_t (by omega) c86 j) (wn := List.flatten [mdO m0 m1 m2 m3 th sv kp ln ca lt fi sd hs, arC cI m1 1170 (enc B), arC cI m2 60 T, arC cI m3 8 (w3 (B a) t)]) rfl
                exact ih  t trivial (by omega) (by omega) _ _ _ hP hD hS (lv_sub hl [1, 2, 0] rfl)
        obtain ⟨hP, hD⟩ := PD_cg hP hD 3 (w3 (B a) 7) rfl (fun j hj => rw1_o (by omega) hj) (wn := List.flatten [mdO m0 m1 m2 m3 th sv kp ln ca lt fi sd hs, arC cI m1 1170 (enc B), arC cI m2 60 T, arC cI m3 8 (w3 (B a) 7)]) rfl
        exact lp_76 (7 + 1) 7 trivial (by omega) (Nat.lt_succ_self _) _ _ _ hP hD hS (lv_sub hl [1, 2, 0] rfl)
      · skip
        refine lv_aload_n hx hb dX7_rises_8 rfl (lv_at hl 0 rfl) ?_
        refine va_get (D := D) (ci := 7) (v := .ref m3) (C := RX7) (T := TX7) (N := 12) hx hb hts hinX7 hown hK hP 0 rfl rfl 10 (by decide) (hts (.fieldLink RX7 16 "RibbonBalloonsModel" "heights" "[I") (by decide +kernel)) (fun _ h9 => h9) rfl dX7_rises_9 ?_
        refine lv_iload_n hx hb dX7_rises_12 rfl (lv_at hl 2 rfl) ?_
        refine lv_aload_n hx hb dX7_rises_13 rfl (lv_at hl 0 rfl) ?_
        refine lv_iload_n hx hb dX7_rises_14 rfl (lv_at hl 1 rfl) ?_
        refine lv_iload_n hx hb dX7_rises_15 rfl (lv_at hl 2 rfl) ?_
        refine kcallV (As := [.int (nI (130 * a)), .int (nI i)]) (rest := [.int (nI i), .ref m3]) (Wn := [mdO m0 m1 m2 m3 th sv kp ln ca lt fi sd hs, arC cI m1 1170 (enc B), arC cI m2 60 T, arC cI m3 8 (rw1 (B a) h i)]) X (c_X7_wants l D cI cZ cS cJ m0 m1 m2 m3 th sv kp ln ca lt fi sd hs B T (rw1 (B a) h i) a i (by omega) (by omega)) (cwV 2 hts gX7_rises_X7_wants rfl rfl rfl (by decide +kernel) ⟨Nat.le_of_ble_eq_true rfl, Nat.le_of_ble_eq_true rfl⟩) hK hP hD hS hA [0, 1, 2, 3] rfl (by decide +kernel) rfl rfl rfl 0 7 rfl rfl rfl hl.1 rfl (Nat.le_of_ble_eq_true rfl) dX7_rises_16 ⟨Nat.le_of_ble_eq_true rfl, Nat.le_of_ble_eq_true rfl⟩ (fun H locs hP hD hS => ?_)
        refine r_iast hx hb hK hP hD hS 3 0 i (f := rw1 (B a) h i) (x := wt (B a) i) (wn := List.flatten [mdO m0 m1 m2 m3 th sv kp ln ca lt fi sd hs, arC cI m1 1170 (enc B), arC cI m2 60 T, arC cI m3 8 (upd (rw1 (B a) h i) i (wt (B a) i))]) rfl rfl (by omega) (by omega) rfl dX7_rises_19 (fun H locs hP hD hS => ?_)
        refine lv_iload_n hx hb dX7_rises_20 rfl (lv_at hl 2 rfl) ?_
        refine n_ifle (i := i) (tgt := 67) hx hb (by omega) dX7_rises_21 (by decide) (fun c21 => ?_) (fun c21 => ?_)
        · skip
          refine lv_iinc (v := nI (i + 1)) (lv' := [(2, .int (nI (i + 1))), (0, .ref m0), (1, .int (nI (130 * a)))]) hx hb dX7_rises_67 hl (k := 2) rfl (nI_add _ _) (by decide) rfl (fun ls hl => ?_)
          refine lv_goto (tgt := 2) hx hb dX7_rises_70 (by decide) ?_
          obtain ⟨hP, hD⟩ := PD_cg hP hD 3 (rw1 (B a) h (i + 1)) rfl (fun j _ => by first | exact rw1_b (by omega) c32 j | exact rw1_c (by omega) c32 j | exact rw1_a (by omega) j) (wn := List.flatten [mdO m0 m1 m2 m3 th sv kp ln ca lt fi sd hs, arC cI m1 1170 (enc B), arC cI m2 60 T, arC cI m3 8 (rw1 (B a) h (i + 1))]) rfl
          exact ih  (i + 1) trivial (by omega) (by omega) _ _ _ hP hD hS (lv_sub hl [1, 2, 0] rfl)
        · skip
          refine lv_aload_n hx hb dX7_rises_24 rfl (lv_at hl 0 rfl) ?_
          refine lv_iload_n hx hb dX7_rises_25 rfl (lv_at hl 1 rfl) ?_
          refine lv_iload_n hx hb dX7_rises_26 rfl (lv_at hl 2 rfl) ?_
          refine lv_iconst (v := 1) hx hb dX7_rises_27 (by decide) ?_
          refine lv_isub hx hb dX7_rises_28 ?_
          refine lv_eqi (y := nI (i - 1)) (n_p1 (by omega)) ?_
          refine kcallV (As := [.int (nI (130 * a)), .int (nI (i - 1))]) (rest := []) (Wn := [mdO m0 m1 m2 m3 th sv kp ln ca lt fi sd hs, arC cI m1 1170 (enc B), arC cI m2 60 T, arC cI m3 8 (upd (rw1 (B a) h i) i (wt (B a) i))]) X (c_X7_isTied l D cI cZ cS cJ m0 m1 m2 m3 th sv kp ln ca lt fi sd hs B T (upd (rw1 (B a) h i) i (wt (B a) i)) a (i - 1) (by omega) (by omega) hT) (cwV 2 hts gX7_rises_X7_isTied rfl rfl rfl (by decide +kernel) ⟨Nat.le_of_ble_eq_true rfl, Nat.le_of_ble_eq_true rfl⟩) hK hP hD hS hA [0, 1, 2, 3] rfl (by decide +kernel) rfl rfl rfl 0 7 rfl rfl rfl hl.1 rfl (Nat.le_of_ble_eq_true rfl) dX7_rises_29 ⟨Nat.le_of_ble_eq_true rfl, Nat.le_of_ble_eq_true rfl⟩ (fun H locs hP hD hS => ?_)
          refine lv_if_eq (tgt := 67) hx hb dX7_rises_32 (by decide) (fun c32 => ?_) (fun c32 => ?_)
          · skip
            refine lv_iinc (v := nI (i + 1)) (lv' := [(2, .int (nI (i + 1))), (0, .ref m0), (1, .int (nI (130 * a)))]) hx hb dX7_rises_67 hl (k := 2) rfl (nI_add _ _) (by decide) rfl (fun ls hl => ?_)
            refine lv_goto (tgt := 2) hx hb dX7_rises_70 (by decide) ?_
            obtain ⟨hP, hD⟩ := PD_cg hP hD 3 (rw1 (B a) h (i + 1)) rfl (fun j _ => by first | exact rw1_b (by omega) c32 j | exact rw1_c (by omega) c32 j | exact rw1_a (by omega) j) (wn := List.flatten [mdO m0 m1 m2 m3 th sv kp ln ca lt fi sd hs, arC cI m1 1170 (enc B), arC cI m2 60 T, arC cI m3 8 (rw1 (B a) h (i + 1))]) rfl
            exact ih  (i + 1) trivial (by omega) (by omega) _ _ _ hP hD hS (lv_sub hl [1, 2, 0] rfl)
          · skip
            refine lv_aload_n hx hb dX7_rises_35 rfl (lv_at hl 0 rfl) ?_
            refine va_get (D := D) (ci := 7) (v := .ref m3) (C := RX7) (T := TX7) (N := 12) hx hb hts hinX7 hown hK hP 0 rfl rfl 10 (by decide) (hts (.fieldLink RX7 16 "RibbonBalloonsModel" "heights" "[I") (by decide +kernel)) (fun _ h9 => h9) rfl dX7_rises_36 ?_
            refine lv_iload_n hx hb dX7_rises_39 rfl (lv_at hl 2 rfl) ?_
            refine lv_aload_n hx hb dX7_rises_40 rfl (lv_at hl 0 rfl) ?_
            refine va_get (D := D) (ci := 7) (v := .ref m3) (C := RX7) (T := TX7) (N := 12) hx hb hts hinX7 hown hK hP 0 rfl rfl 10 (by decide) (hts (.fieldLink RX7 16 "RibbonBalloonsModel" "heights" "[I") (by decide +kernel)) (fun _ h9 => h9) rfl dX7_rises_41 ?_
            refine lv_iload_n hx hb dX7_rises_44 rfl (lv_at hl 2 rfl) ?_
            refine r_iald hx hb hK hP 3 0 i (f := upd (rw1 (B a) h i) i (wt (B a) i)) rfl rfl (by omega) (by omega) dX7_rises_45 ?_
            refine lv_aload_n hx hb dX7_rises_46 rfl (lv_at hl 0 rfl) ?_
            refine va_get (D := D) (ci := 7) (v := .ref m3) (C := RX7) (T := TX7) (N := 12) hx hb hts hinX7 hown hK hP 0 rfl rfl 10 (by decide) (hts (.fieldLink RX7 16 "RibbonBalloonsModel" "heights" "[I") (by decide +kernel)) (fun _ h9 => h9) rfl dX7_rises_47 ?_
            refine lv_iload_n hx hb dX7_rises_50 rfl (lv_at hl 2 rfl) ?_
            refine lv_iconst (v := 1) hx hb dX7_rises_51 (by decide) ?_
            refine lv_isub hx hb dX7_rises_52 ?_
            refine lv_eqi (y := nI (i - 1)) (n_p1 (by omega)) ?_
            refine r_iald hx hb hK hP 3 0 (i - 1) (f := upd (rw1 (B a) h i) i (wt (B a) i)) rfl rfl (by omega) (by omega) dX7_rises_53 ?_
            refine lv_aload_n hx hb dX7_rises_54 rfl (lv_at hl 0 rfl) ?_
            refine lv_iload_n hx hb dX7_rises_55 rfl (lv_at hl 1 rfl) ?_
            refine lv_iload_n hx hb dX7_rises_56 rfl (lv_at hl 2 rfl) ?_
            refine lv_iconst (v := 1) hx hb dX7_rises_57 (by decide) ?_
            refine lv_isub hx hb dX7_rises_58 ?_
            refine lv_eqi (y := nI (i - 1)) (n_p1 (by omega)) ?_
            refine kcallV (As := [.int (nI (130 * a)), .int (nI (i - 1))]) (rest := [.int ((upd (rw1 (B a) h i) i (wt (B a) i)) (i - 1)), .int ((upd (rw1 (B a) h i) i (wt (B a) i)) i), .int (nI i), .ref m3]) (Wn := [mdO m0 m1 m2 m3 th sv kp ln ca lt fi sd hs, arC cI m1 1170 (enc B), arC cI m2 60 T, arC cI m3 8 (upd (rw1 (B a) h i) i (wt (B a) i))]) X (c_X7_long1 l D cI cZ cS cJ m0 m1 m2 m3 th sv kp ln ca lt fi sd hs B T (upd (rw1 (B a) h i) i (wt (B a) i)) a (i - 1) (by omega) (by omega)) (cwV 2 hts gX7_rises_X7_long1 rfl rfl rfl (by decide +kernel) ⟨Nat.le_of_ble_eq_true rfl, Nat.le_of_ble_eq_true rfl⟩) hK hP hD hS hA [0, 1, 2, 3] rfl (by decide +kernel) rfl rfl rfl 0 7 rfl rfl rfl hl.1 rfl (Nat.le_of_ble_eq_true rfl) dX7_rises_59 ⟨Nat.le_of_ble_eq_true rfl, Nat.le_of_ble_eq_true rfl⟩ (fun H locs hP hD hS => ?_)
            refine lv_iadd hx hb dX7_rises_62 ?_
            refine kcallS (As := [.int ((upd (rw1 (B a) h i) i (wt (B a) i)) i), .int (((upd (rw1 (B a) h i) i (wt (B a) i)) (i - 1)) + (B a 4 (i - 1)))]) (rest := [.int (nI i), .ref m3]) (Wn := [mdO m0 m1 m2 m3 th sv kp ln ca lt fi sd hs, arC cI m1 1170 (enc B), arC cI m2 60 T, arC cI m3 8 (upd (rw1 (B a) h i) i (wt (B a) i))]) X (c_X7_lesser l D cI cZ cS cJ ((upd (rw1 (B a) h i) i (wt (B a) i)) i) (((upd (rw1 (B a) h i) i (wt (B a) i)) (i - 1)) + (B a 4 (i - 1)))) (va_cwS 2 hts gX7_rises_X7_lesser rfl rfl rfl (by decide +kernel) ⟨Nat.le_of_ble_eq_true rfl, Nat.le_of_ble_eq_true rfl⟩) hK hP hD hS hA [] rfl (by decide +kernel) rfl rfl rfl rfl hl.1 rfl (Nat.le_of_ble_eq_true rfl) dX7_rises_63 ⟨Nat.le_of_ble_eq_true rfl, Nat.le_of_ble_eq_true rfl⟩ (fun H locs hP hD hS => ?_)
            refine r_iast hx hb hK hP hD hS 3 0 i (f := upd (rw1 (B a) h i) i (wt (B a) i)) (x := mn ((upd (rw1 (B a) h i) i (wt (B a) i)) i) (((upd (rw1 (B a) h i) i (wt (B a) i)) (i - 1)) + (B a 4 (i - 1)))) (wn := List.flatten [mdO m0 m1 m2 m3 th sv kp ln ca lt fi sd hs, arC cI m1 1170 (enc B), arC cI m2 60 T, arC cI m3 8 (upd (upd (rw1 (B a) h i) i (wt (B a) i)) i (mn ((upd (rw1 (B a) h i) i (wt (B a) i)) i) (((upd (rw1 (B a) h i) i (wt (B a) i)) (i - 1)) + (B a 4 (i - 1)))))]) rfl rfl (by omega) (by omega) rfl dX7_rises_66 (fun H locs hP hD hS => ?_)
            refine lv_iinc (v := nI (i + 1)) (lv' := [(2, .int (nI (i + 1))), (0, .ref m0), (1, .int (nI (130 * a)))]) hx hb dX7_rises_67 hl (k := 2) rfl (nI_add _ _) (by decide) rfl (fun ls hl => ?_)
            refine lv_goto (tgt := 2) hx hb dX7_rises_70 (by decide) ?_
            obtain ⟨hP, hD⟩ := PD_cg hP hD 3 (rw1 (B a) h (i + 1)) rfl (fun j _ => by first | exact rw1_b (by omega) c32 j | exact rw1_c (by omega) c32 j | exact rw1_a (by omega) j) (wn := List.flatten [mdO m0 m1 m2 m3 th sv kp ln ca lt fi sd hs, arC cI m1 1170 (enc B), arC cI m2 60 T, arC cI m3 8 (rw1 (B a) h (i + 1))]) rfl
            exact ih  (i + 1) trivial (by omega) (by omega) _ _ _ hP hD hS (lv_sub hl [1, 2, 0] rfl)
  obtain ⟨hP, hD⟩ := PD_cg hP hD 3 (rw1 (B a) h 0) rfl (fun j _ => rw1_0 (B a) h j) (wn := List.flatten [mdO m0 m1 m2 m3 th sv kp ln ca lt fi sd hs, arC cI m1 1170 (enc B), arC cI m2 60 T, arC cI m3 8 (rw1 (B a) h 0)]) rfl
  exact lp_2 (8 - 0 + 1) 0 trivial (by omega) (Nat.lt_succ_self _) _ _ _ hP hD hS (lv_sub hl [1, 2, 0] rfl)

set_option maxHeartbeats 4000000 in
set_option maxRecDepth 100000 in
theorem c_X7_allHeights (l : Launch) (D : va_G) (cI cZ cS cJ : ClassId) (m0 : Nat) (m1 : Nat) (m2 : Nat) (m3 : Nat) (th : Int32) (sv : Int32) (kp : Int32) (ln : Int32) (ca : Int32) (lt : Int32) (fi : Int32) (sd : Int32) (hs : Int64) (B : Nat → Nat → Nat → Int32) (T : Nat → Int32) (h : Nat → Int32) (a : Nat) (ha : a ≤ 8) (hT : ∀ r, r < 7 → B a 3 r = 0 ∨ B a 3 r = 1) : C0 l yX7_allHeights wsX7_allHeights ({ frames := 4, cells := 0, slots := 0, locals := 90 }) D (tyL cI cZ cS cJ) [.ref m0, .int (nI (130 * a))] (List.flatten [mdO m0 m1 m2 m3 th sv kp ln ca lt fi sd hs, arC cI m1 1170 (enc B), arC cI m2 60 T, arC cI m3 8 h]) (some (.int (hsm (B a)))) (List.flatten [mdO m0 m1 m2 m3 th sv kp ln ca lt fi sd hs, arC cI m1 1170 (enc B), arC cI m2 60 T, arC cI m3 8 (ht (B a))]) 0 0 := by
  refine C0_int (cc := cX7_allHeights) (maxL := 4) (rt := .int) (by decide) rfl (Nat.le_of_ble_eq_true rfl) (rfl) ?_
  intro p e s m below meth c A ls Q X hK hP hD hS hA hl hend
  have X : CallFix p m c cX7_allHeights 4 s ([.ref m0, .int (nI (130 * a))] : List Value).toArray wsX7_allHeights RX7 := X
  obtain ⟨hx, hb, hml, hown, hts⟩ := id X
  have hl : lv_has ls 4 [(0, .ref m0), (1, .int (nI (130 * a)))] := hl
  have hinX7 : ∀ w ∈ u_ws RX7 TX7 12, w ∈ wsX7_allHeights := by decide +kernel
  refine lv_aload_n hx hb dX7_allHeights_0 rfl (lv_at hl 0 rfl) ?_
  refine lv_iload_n hx hb dX7_allHeights_1 rfl (lv_at hl 1 rfl) ?_
  refine kcallV (As := [.int (nI (130 * a))]) (rest := []) (Wn := [mdO m0 m1 m2 m3 th sv kp ln ca lt fi sd hs, arC cI m1 1170 (enc B), arC cI m2 60 T, arC cI m3 8 (ht (B a))]) X (c_X7_rises l D cI cZ cS cJ m0 m1 m2 m3 th sv kp ln ca lt fi sd hs B T h a (by omega) hT) (cwV 1 hts gX7_allHeights_X7_rises rfl rfl rfl (by decide +kernel) ⟨Nat.le_of_ble_eq_true rfl, Nat.le_of_ble_eq_true rfl⟩) hK hP hD hS hA [0, 1, 2, 3] rfl (by decide +kernel) rfl rfl rfl 0 7 rfl rfl rfl hl.1 rfl (Nat.le_of_ble_eq_true rfl) dX7_allHeights_2 ⟨Nat.le_of_ble_eq_true rfl, Nat.le_of_ble_eq_true rfl⟩ (fun H locs hP hD hS => ?_)
  refine lv_iconst (v := 0) hx hb dX7_allHeights_5 (by decide) ?_
  refine lv_istore_n (lv' := [(2, .int 0), (0, .ref m0), (1, .int (nI (130 * a)))]) hx hb dX7_allHeights_6 rfl hl (by decide) rfl (fun ls hl => ?_)
  refine lv_iconst (v := 0) hx hb dX7_allHeights_7 (by decide) ?_
  refine lv_istore_n (lv' := [(3, .int 0), (2, .int 0), (0, .ref m0), (1, .int (nI (130 * a)))]) hx hb dX7_allHeights_8 rfl hl (by decide) rfl (fun ls hl => ?_)
  have lp_9 : ∀ (nn : Nat) (i : Nat), True → (i ≤ 8) → 8 - i < nn → ∀ (H : Heap) (locs : List Loc) (ls : Array Slot), va_P D vwCl (List.flatten [mdO m0 m1 m2 m3 th sv kp ln ca lt fi sd hs, arC cI m1 1170 (enc B), arC cI m2 60 T, arC cI m3 8 (ht (B a))]) H → va_D A (List.flatten [mdO m0 m1 m2 m3 th sv kp ln ca lt fi sd hs, arC cI m1 1170 (enc B), arC cI m2 60 T, arC cI m3 8 (ht (B a))]) → va_S A s.heap H locs → lv_has ls 4 [(0, .ref m0), (1, .int (nI (130 * a))), (2, .int (sm (ht (B a)) i)), (3, .int (nI i))] → W p l e ({ frames := 4, cells := 0, slots := 0, locals := 90 } : Room) s m ([.ref m0, .int (nI (130 * a))] : List Value).toArray below meth c H locs 0 0 Q (F0 m 9 ls []) := by
    intro nn
    induction nn with
    | zero => intro i _ hi hmz; exact absurd hmz (Nat.not_lt_zero _)
    | succ nn ih =>
      intro i _ hi hms H locs ls hP hD hS hl
      refine lv_iload_n hx hb dX7_allHeights_9 rfl (lv_at hl 3 rfl) ?_
      refine lv_bipush (v := 8) hx hb dX7_allHeights_10 (by decide) ?_
      refine n_ge (i := i) (j := 8) (tgt := 30) hx hb (by omega) (by omega) dX7_allHeights_12 (by decide) (fun c12 => ?_) (fun c12 => ?_)
      · skip
        refine lv_iload_n hx hb dX7_allHeights_30 rfl (lv_at hl 2 rfl) ?_
        refine hend _ _ _ _ _ ?_ hP hD hS dX7_allHeights_31
        rw [show i = 8 by omega]; rfl
      · skip
        refine lv_iload_n hx hb dX7_allHeights_15 rfl (lv_at hl 2 rfl) ?_
        refine lv_aload_n hx hb dX7_allHeights_16 rfl (lv_at hl 0 rfl) ?_
        refine va_get (D := D) (ci := 7) (v := .ref m3) (C := RX7) (T := TX7) (N := 12) hx hb hts hinX7 hown hK hP 0 rfl rfl 10 (by decide) (hts (.fieldLink RX7 16 "RibbonBalloonsModel" "heights" "[I") (by decide +kernel)) (fun _ h9 => h9) rfl dX7_allHeights_17 ?_
        refine lv_iload_n hx hb dX7_allHeights_20 rfl (lv_at hl 3 rfl) ?_
        refine r_iald hx hb hK hP 3 0 i (f := ht (B a)) rfl rfl (by omega) (by omega) dX7_allHeights_21 ?_
        refine lv_iadd hx hb dX7_allHeights_22 ?_
        refine lv_eqi (y := sm (ht (B a)) (i + 1)) (rfl) ?_
        refine lv_istore_n (lv' := [(2, .int (sm (ht (B a)) (i + 1))), (0, .ref m0), (1, .int (nI (130 * a))), (3, .int (nI i))]) hx hb dX7_allHeights_23 rfl hl (by decide) rfl (fun ls hl => ?_)
        refine lv_iinc (v := nI (i + 1)) (lv' := [(3, .int (nI (i + 1))), (2, .int (sm (ht (B a)) (i + 1))), (0, .ref m0), (1, .int (nI (130 * a)))]) hx hb dX7_allHeights_24 hl (k := 3) rfl (nI_add _ _) (by decide) rfl (fun ls hl => ?_)
        refine lv_goto (tgt := 9) hx hb dX7_allHeights_27 (by decide) ?_
        exact ih  (i + 1) trivial (by omega) (by omega) _ _ _ hP hD hS (lv_sub hl [2, 3, 1, 0] rfl)
  exact lp_9 (8 - 0 + 1) 0 trivial (by omega) (Nat.lt_succ_self _) _ _ _ hP hD hS (lv_sub hl [2, 3, 1, 0] rfl)

set_option maxHeartbeats 4000000 in
set_option maxRecDepth 100000 in
theorem c_X7_heightOf (l : Launch) (D : va_G) (cI cZ cS cJ : ClassId) (m0 : Nat) (m1 : Nat) (m2 : Nat) (m3 : Nat) (th : Int32) (sv : Int32) (kp : Int32) (ln : Int32) (ca : Int32) (lt : Int32) (fi : Int32) (sd : Int32) (hs : Int64) (B : Nat → Nat → Nat → Int32) (T : Nat → Int32) (h : Nat → Int32) (k : Nat) (hk8 : k < 8) (hT : ∀ r, r < 7 → B 0 3 r = 0 ∨ B 0 3 r = 1) : C0 l yX7_heightOf wsX7_heightOf ({ frames := 4, cells := 0, slots := 0, locals := 90 }) D (tyL cI cZ cS cJ) [.ref m0, .int (nI k)] (List.flatten [mdO m0 m1 m2 m3 th sv kp ln ca lt fi sd hs, arC cI m1 1170 (enc B), arC cI m2 60 T, arC cI m3 8 h]) (some (.int (ht (B 0) k))) (List.flatten [mdO m0 m1 m2 m3 th sv kp ln ca lt fi sd hs, arC cI m1 1170 (enc B), arC cI m2 60 T, arC cI m3 8 (ht (B 0))]) 0 0 := by
  refine C0_int (cc := cX7_heightOf) (maxL := 2) (rt := .int) (by decide) rfl (Nat.le_of_ble_eq_true rfl) (rfl) ?_
  intro p e s m below meth c A ls Q X hK hP hD hS hA hl hend
  have X : CallFix p m c cX7_heightOf 2 s ([.ref m0, .int (nI k)] : List Value).toArray wsX7_heightOf RX7 := X
  obtain ⟨hx, hb, hml, hown, hts⟩ := id X
  have hl : lv_has ls 2 [(0, .ref m0), (1, .int (nI k))] := hl
  have hinX7 : ∀ w ∈ u_ws RX7 TX7 12, w ∈ wsX7_heightOf := by decide +kernel
  refine lv_aload_n hx hb dX7_heightOf_0 rfl (lv_at hl 0 rfl) ?_
  refine lv_iconst (v := 0) hx hb dX7_heightOf_1 (by decide) ?_
  refine lv_eqi (y := nI (130 * 0)) (rfl) ?_
  refine kcallV (As := [.int (nI (130 * 0))]) (rest := []) (Wn := [mdO m0 m1 m2 m3 th sv kp ln ca lt fi sd hs, arC cI m1 1170 (enc B), arC cI m2 60 T, arC cI m3 8 (ht (B 0))]) X (c_X7_rises l D cI cZ cS cJ m0 m1 m2 m3 th sv kp ln ca lt fi sd hs B T h 0 (by omega) hT) (cwV 1 hts gX7_heightOf_X7_rises rfl rfl rfl (by decide +kernel) ⟨Nat.le_of_ble_eq_true rfl, Nat.le_of_ble_eq_true rfl⟩) hK hP hD hS hA [0, 1, 2, 3] rfl (by decide +kernel) rfl rfl rfl 0 7 rfl rfl rfl hl.1 rfl (Nat.le_of_ble_eq_true rfl) dX7_heightOf_2 ⟨Nat.le_of_ble_eq_true rfl, Nat.le_of_ble_eq_true rfl⟩ (fun H locs hP hD hS => ?_)
  refine lv_aload_n hx hb dX7_heightOf_5 rfl (lv_at hl 0 rfl) ?_
  refine va_get (D := D) (ci := 7) (v := .ref m3) (C := RX7) (T := TX7) (N := 12) hx hb hts hinX7 hown hK hP 0 rfl rfl 10 (by decide) (hts (.fieldLink RX7 16 "RibbonBalloonsModel" "heights" "[I") (by decide +kernel)) (fun _ h9 => h9) rfl dX7_heightOf_6 ?_
  refine lv_iload_n hx hb dX7_heightOf_9 rfl (lv_at hl 1 rfl) ?_
  refine r_iald hx hb hK hP 3 0 k (f := ht (B 0)) rfl rfl (by omega) (by omega) dX7_heightOf_10 ?_
  refine hend _ _ _ _ _ ?_ hP hD hS dX7_heightOf_11
  exact rfl

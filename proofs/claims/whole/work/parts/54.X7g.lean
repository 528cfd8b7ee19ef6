set_option maxHeartbeats 4000000 in
set_option maxRecDepth 100000 in
theorem c_X7_lowestOf (l : Launch) (D : va_G) (cI cZ cS cJ : ClassId) (m0 : Nat) (m1 : Nat) (m2 : Nat) (m3 : Nat) (th : Int32) (sv : Int32) (kp : Int32) (ln : Int32) (ca : Int32) (lt : Int32) (fi : Int32) (sd : Int32) (hs : Int64) (B : Nat → Nat → Nat → Int32) (T : Nat → Int32) (h : Nat → Int32) (b : Nat) (hb8 : b < 8) (hT : ∀ r, r < 7 → B 0 3 r = 0 ∨ B 0 3 r = 1) : C0 l yX7_lowestOf wsX7_lowestOf ({ frames := 1, cells := 0, slots := 0, locals := 22 }) D (tyL cI cZ cS cJ) [.ref m0, .int (nI b)] (List.flatten [mdO m0 m1 m2 m3 th sv kp ln ca lt fi sd hs, arC cI m1 1170 (enc B), arC cI m2 60 T, arC cI m3 8 h]) (some (.int (nI (ss (B 0) b)))) (List.flatten [mdO m0 m1 m2 m3 th sv kp ln ca lt fi sd hs, arC cI m1 1170 (enc B), arC cI m2 60 T, arC cI m3 8 h]) 0 0 := by
  refine C0_int (cc := cX7_lowestOf) (maxL := 3) (rt := .int) (by decide) rfl (Nat.le_of_ble_eq_true rfl) (rfl) ?_
  intro p e s m below meth c A ls Q X hK hP hD hS hA hl hend
  have X : CallFix p m c cX7_lowestOf 3 s ([.ref m0, .int (nI b)] : List Value).toArray wsX7_lowestOf RX7 := X
  obtain ⟨hx, hb, hml, hown, hts⟩ := id X
  have hl : lv_has ls 3 [(0, .ref m0), (1, .int (nI b))] := hl
  refine lv_iload_n hx hb dX7_lowestOf_0 rfl (lv_at hl 1 rfl) ?_
  refine lv_istore_n (lv' := [(2, .int (nI b)), (0, .ref m0), (1, .int (nI b))]) hx hb dX7_lowestOf_1 rfl hl (by decide) rfl (fun ls hl => ?_)
  have lp_2 : ∀ (nn : Nat) (k : Nat), True → (k ≤ b) → (ss (B 0) k = ss (B 0) b) → k < nn → ∀ (H : Heap) (locs : List Loc) (ls : Array Slot), va_P D vwCl (List.flatten [mdO m0 m1 m2 m3 th sv kp ln ca lt fi sd hs, arC cI m1 1170 (enc B), arC cI m2 60 T, arC cI m3 8 h]) H → va_D A (List.flatten [mdO m0 m1 m2 m3 th sv kp ln ca lt fi sd hs, arC cI m1 1170 (enc B), arC cI m2 60 T, arC cI m3 8 h]) → va_S A s.heap H locs → lv_has ls 3 [(0, .ref m0), (1, .int (nI b)), (2, .int (nI k))] → W p l e ({ frames := 1, cells := 0, slots := 0, locals := 22 } : Room) s m ([.ref m0, .int (nI b)] : List Value).toArray below meth c H locs 0 0 Q (F0 m 2 ls []) := by
    intro nn
    induction nn with
    | zero => intro k _ hk hinv hmz; exact absurd hmz (Nat.not_lt_zero _)
    | succ nn ih =>
      intro k _ hk hinv hms H locs ls hP hD hS hl
      refine lv_iload_n hx hb dX7_lowestOf_2 rfl (lv_at hl 2 rfl) ?_
      refine n_ifle (i := k) (tgt := 23) hx hb (by omega) dX7_lowestOf_3 (by decide) (fun c3 => ?_) (fun c3 => ?_)
      · skip
        refine lv_iload_n hx hb dX7_lowestOf_23 rfl (lv_at hl 2 rfl) ?_
        refine hend _ _ _ _ _ ?_ hP hD hS dX7_lowestOf_24
        first | exact congrArg nI (ss_o1 c3 hinv) | exact congrArg nI (ss_o2 (Decidable.not_not.mp (b1_z c14)) hinv)
      · skip
        obtain ⟨t, rfl⟩ : ∃ t, k = t + 1 := ⟨k - 1, by omega⟩
        refine lv_aload_n hx hb dX7_lowestOf_6 rfl (lv_at hl 0 rfl) ?_
        refine lv_iconst (v := 0) hx hb dX7_lowestOf_7 (by decide) ?_
        refine lv_eqi (y := nI (130 * 0)) (rfl) ?_
        refine lv_iload_n hx hb dX7_lowestOf_8 rfl (lv_at hl 2 rfl) ?_
        refine lv_iconst (v := 1) hx hb dX7_lowestOf_9 (by decide) ?_
        refine lv_isub hx hb dX7_lowestOf_10 ?_
        refine lv_eqi (y := nI ((t + 1) - 1)) (pk_sub (a := t + 1) (b := 1) (by omega)) ?_
        refine lv_eqi (y := nI t) (rfl) ?_
        refine kcallV (As := [.int (nI (130 * 0)), .int (nI t)]) (rest := []) (Wn := [mdO m0 m1 m2 m3 th sv kp ln ca lt fi sd hs, arC cI m1 1170 (enc B), arC cI m2 60 T, arC cI m3 8 h]) X (c_X7_isTied l D cI cZ cS cJ m0 m1 m2 m3 th sv kp ln ca lt fi sd hs B T h 0 t (by omega) (by omega) hT) (cwV 2 hts gX7_lowestOf_X7_isTied rfl rfl rfl (by decide +kernel) ⟨Nat.le_of_ble_eq_true rfl, Nat.le_of_ble_eq_true rfl⟩) hK hP hD hS hA [0, 1, 2, 3] rfl (by decide +kernel) rfl rfl rfl 0 7 rfl rfl rfl hl.1 rfl (Nat.le_of_ble_eq_true rfl) dX7_lowestOf_11 ⟨Nat.le_of_ble_eq_true rfl, Nat.le_of_ble_eq_true rfl⟩ (fun H locs hP hD hS => ?_)
        refine lv_if_eq (tgt := 23) hx hb dX7_lowestOf_14 (by decide) (fun c14 => ?_) (fun c14 => ?_)
        · skip
          refine lv_iload_n hx hb dX7_lowestOf_23 rfl (lv_at hl 2 rfl) ?_
          refine hend _ _ _ _ _ ?_ hP hD hS dX7_lowestOf_24
          first | exact congrArg nI (ss_o1 c3 hinv) | exact congrArg nI (ss_o2 (Decidable.not_not.mp (b1_z c14)) hinv)
        · skip
          refine lv_iinc (v := nI t) (lv' := [(2, .int (nI t)), (0, .ref m0), (1, .int (nI b))]) hx hb dX7_lowestOf_17 hl (k := 2) rfl (pk_m1 t) (by decide) rfl (fun ls hl => ?_)
          refine lv_goto (tgt := 2) hx hb dX7_lowestOf_20 (by decide) ?_
          exact ih  t trivial (by omega) (by rw [← hinv]; exact (ss_s (b1_t c14)).symm) (by omega) _ _ _ hP hD hS (lv_sub hl [1, 2, 0] rfl)
  exact lp_2 (b + 1) b trivial (Nat.le_refl _) rfl (Nat.lt_succ_self _) _ _ _ hP hD hS (lv_sub hl [1, 2, 0] rfl)

set_option maxHeartbeats 4000000 in
set_option maxRecDepth 100000 in
theorem c_X7_highestOf (l : Launch) (D : va_G) (cI cZ cS cJ : ClassId) (m0 : Nat) (m1 : Nat) (m2 : Nat) (m3 : Nat) (th : Int32) (sv : Int32) (kp : Int32) (ln : Int32) (ca : Int32) (lt : Int32) (fi : Int32) (sd : Int32) (hs : Int64) (B : Nat → Nat → Nat → Int32) (T : Nat → Int32) (h : Nat → Int32) (b : Nat) (hb8 : b < 8) (hT : ∀ r, r < 7 → B 0 3 r = 0 ∨ B 0 3 r = 1) : C0 l yX7_highestOf wsX7_highestOf ({ frames := 1, cells := 0, slots := 0, locals := 22 }) D (tyL cI cZ cS cJ) [.ref m0, .int (nI b)] (List.flatten [mdO m0 m1 m2 m3 th sv kp ln ca lt fi sd hs, arC cI m1 1170 (enc B), arC cI m2 60 T, arC cI m3 8 h]) (some (.int (nI (se (B 0) (7 - b) b)))) (List.flatten [mdO m0 m1 m2 m3 th sv kp ln ca lt fi sd hs, arC cI m1 1170 (enc B), arC cI m2 60 T, arC cI m3 8 h]) 0 0 := by
  refine C0_int (cc := cX7_highestOf) (maxL := 3) (rt := .int) (by decide) rfl (Nat.le_of_ble_eq_true rfl) (rfl) ?_
  intro p e s m below meth c A ls Q X hK hP hD hS hA hl hend
  have X : CallFix p m c cX7_highestOf 3 s ([.ref m0, .int (nI b)] : List Value).toArray wsX7_highestOf RX7 := X
  obtain ⟨hx, hb, hml, hown, hts⟩ := id X
  have hl : lv_has ls 3 [(0, .ref m0), (1, .int (nI b))] := hl
  refine lv_iload_n hx hb dX7_highestOf_0 rfl (lv_at hl 1 rfl) ?_
  refine lv_istore_n (lv' := [(2, .int (nI b)), (0, .ref m0), (1, .int (nI b))]) hx hb dX7_highestOf_1 rfl hl (by decide) rfl (fun ls hl => ?_)
  have lp_2 : ∀ (nn : Nat) (k : Nat), True → (k ≤ 7) → (b ≤ k) → (se (B 0) (7 - k) k = se (B 0) (7 - b) b) → 7 - k < nn → ∀ (H : Heap) (locs : List Loc) (ls : Array Slot), va_P D vwCl (List.flatten [mdO m0 m1 m2 m3 th sv kp ln ca lt fi sd hs, arC cI m1 1170 (enc B), arC cI m2 60 T, arC cI m3 8 h]) H → va_D A (List.flatten [mdO m0 m1 m2 m3 th sv kp ln ca lt fi sd hs, arC cI m1 1170 (enc B), arC cI m2 60 T, arC cI m3 8 h]) → va_S A s.heap H locs → lv_has ls 3 [(0, .ref m0), (1, .int (nI b)), (2, .int (nI k))] → W p l e ({ frames := 1, cells := 0, slots := 0, locals := 22 } : Room) s m ([.ref m0, .int (nI b)] : List Value).toArray below meth c H locs 0 0 Q (F0 m 2 ls []) := by
    intro nn
    induction nn with
    | zero => intro k _ hk hk2 hinv hmz; exact absurd hmz (Nat.not_lt_zero _)
    | succ nn ih =>
      intro k _ hk hk2 hinv hms H locs ls hP hD hS hl
      refine lv_iload_n hx hb dX7_highestOf_2 rfl (lv_at hl 2 rfl) ?_
      refine lv_bipush (v := 7) hx hb dX7_highestOf_3 (by decide) ?_
      refine n_ge (i := k) (j := 7) (tgt := 23) hx hb (by omega) (by omega) dX7_highestOf_5 (by decide) (fun c5 => ?_) (fun c5 => ?_)
      · skip
        refine lv_iload_n hx hb dX7_highestOf_23 rfl (lv_at hl 2 rfl) ?_
        refine hend _ _ _ _ _ ?_ hP hD hS dX7_highestOf_24
        first | rw [← se_o1 (by omega) hinv] | rw [← se_o2 (by omega) (Decidable.not_not.mp (b1_z c14)) hinv]
      · skip
        refine lv_aload_n hx hb dX7_highestOf_8 rfl (lv_at hl 0 rfl) ?_
        refine lv_iconst (v := 0) hx hb dX7_highestOf_9 (by decide) ?_
        refine lv_eqi (y := nI (130 * 0)) (rfl) ?_
        refine lv_iload_n hx hb dX7_highestOf_10 rfl (lv_at hl 2 rfl) ?_
        refine kcallV (As := [.int (nI (130 * 0)), .int (nI k)]) (rest := []) (Wn := [mdO m0 m1 m2 m3 th sv kp ln ca lt fi sd hs, arC cI m1 1170 (enc B), arC cI m2 60 T, arC cI m3 8 h]) X (c_X7_isTied l D cI cZ cS cJ m0 m1 m2 m3 th sv kp ln ca lt fi sd hs B T h 0 k (by omega) (by omega) hT) (cwV 2 hts gX7_highestOf_X7_isTied rfl rfl rfl (by decide +kernel) ⟨Nat.le_of_ble_eq_true rfl, Nat.le_of_ble_eq_true rfl⟩) hK hP hD hS hA [0, 1, 2, 3] rfl (by decide +kernel) rfl rfl rfl 0 7 rfl rfl rfl hl.1 rfl (Nat.le_of_ble_eq_true rfl) dX7_highestOf_11 ⟨Nat.le_of_ble_eq_true rfl, Nat.le_of_ble_eq_true rfl⟩ (fun H locs hP hD hS => ?_)
        refine lv_if_eq (tgt := 23) hx hb dX7_highestOf_14 (by decide) (fun c14 => ?_) (fun c14 => ?_)
        · skip
          refine lv_iload_n hx hb dX7_highestOf_23 rfl (lv_at hl 2 rfl) ?_
          refine hend _ _ _ _ _ ?_ hP hD hS dX7_highestOf_24
          first | rw [← se_o1 (by omega) hinv] | rw [← se_o2 (by omega) (Decidable.not_not.mp (b1_z c14)) hinv]
        · skip
          refine lv_iinc (v := nI (k + 1)) (lv' := [(2, .int (nI (k + 1))), (0, .ref m0), (1, .int (nI b))]) hx hb dX7_highestOf_17 hl (k := 2) rfl (nI_add _ _) (by decide) rfl (fun ls hl => ?_)
          refine lv_goto (tgt := 2) hx hb dX7_highestOf_20 (by decide) ?_
          exact ih  (k + 1) trivial (by omega) (by omega) (by rw [← hinv]; exact (se_s (by omega) (b1_t c14)).symm) (by omega) _ _ _ hP hD hS (lv_sub hl [1, 2, 0] rfl)
  exact lp_2 (7 - b + 1) b trivial (by omega) (Nat.le_refl _) rfl (Nat.lt_succ_self _) _ _ _ hP hD hS (lv_sub hl [1, 2, 0] rfl)

set_option maxHeartbeats 4000000 in
set_option maxRecDepth 100000 in
theorem c_X7_stringOf (l : Launch) (D : va_G) (cI cZ cS cJ : ClassId) (m0 : Nat) (m1 : Nat) (m2 : Nat) (m3 : Nat) (th : Int32) (sv : Int32) (kp : Int32) (ln : Int32) (ca : Int32) (lt : Int32) (fi : Int32) (sd : Int32) (hs : Int64) (B : Nat → Nat → Nat → Int32) (T : Nat → Int32) (h : Nat → Int32) (b : Nat) (hb8 : b < 8) (hT : ∀ r, r < 7 → B 0 3 r = 0 ∨ B 0 3 r = 1) : C0 l yX7_stringOf wsX7_stringOf ({ frames := 2, cells := 0, slots := 0, locals := 44 }) D (tyL cI cZ cS cJ) [.ref m0, .int (nI b)] (List.flatten [mdO m0 m1 m2 m3 th sv kp ln ca lt fi sd hs, arC cI m1 1170 (enc B), arC cI m2 60 T, arC cI m3 8 h]) (some (.int (nI (se (B 0) (7 - b) b - ss (B 0) b + 1)))) (List.flatten [mdO m0 m1 m2 m3 th sv kp ln ca lt fi sd hs, arC cI m1 1170 (enc B), arC cI m2 60 T, arC cI m3 8 h]) 0 0 := by
  refine C0_int (cc := cX7_stringOf) (maxL := 2) (rt := .int) (by decide) rfl (Nat.le_of_ble_eq_true rfl) (rfl) ?_
  intro p e s m below meth c A ls Q X hK hP hD hS hA hl hend
  have X : CallFix p m c cX7_stringOf 2 s ([.ref m0, .int (nI b)] : List Value).toArray wsX7_stringOf RX7 := X
  obtain ⟨hx, hb, hml, hown, hts⟩ := id X
  have hl : lv_has ls 2 [(0, .ref m0), (1, .int (nI b))] := hl
  refine lv_aload_n hx hb dX7_stringOf_0 rfl (lv_at hl 0 rfl) ?_
  refine lv_iload_n hx hb dX7_stringOf_1 rfl (lv_at hl 1 rfl) ?_
  refine kcallV (As := [.int (nI b)]) (rest := []) (Wn := [mdO m0 m1 m2 m3 th sv kp ln ca lt fi sd hs, arC cI m1 1170 (enc B), arC cI m2 60 T, arC cI m3 8 h]) X (c_X7_highestOf l D cI cZ cS cJ m0 m1 m2 m3 th sv kp ln ca lt fi sd hs B T h b (by omega) hT) (cwV 1 hts gX7_stringOf_X7_highestOf rfl rfl rfl (by decide +kernel) ⟨Nat.le_of_ble_eq_true rfl, Nat.le_of_ble_eq_true rfl⟩) hK hP hD hS hA [0, 1, 2, 3] rfl (by decide +kernel) rfl rfl rfl 0 7 rfl rfl rfl hl.1 rfl (Nat.le_of_ble_eq_true rfl) dX7_stringOf_2 ⟨Nat.le_of_ble_eq_true rfl, Nat.le_of_ble_eq_true rfl⟩ (fun H locs hP hD hS => ?_)
  refine lv_aload_n hx hb dX7_stringOf_5 rfl (lv_at hl 0 rfl) ?_
  refine lv_iload_n hx hb dX7_stringOf_6 rfl (lv_at hl 1 rfl) ?_
  refine kcallV (As := [.int (nI b)]) (rest := [.int (nI (se (B 0) (7 - b) b))]) (Wn := [mdO m0 m1 m2 m3 th sv kp ln ca lt fi sd hs, arC cI m1 1170 (enc B), arC cI m2 60 T, arC cI m3 8 h]) X (c_X7_lowestOf l D cI cZ cS cJ m0 m1 m2 m3 th sv kp ln ca lt fi sd hs B T h b (by omega) hT) (cwV 1 hts gX7_stringOf_X7_lowestOf rfl rfl rfl (by decide +kernel) ⟨Nat.le_of_ble_eq_true rfl, Nat.le_of_ble_eq_true rfl⟩) hK hP hD hS hA [0, 1, 2, 3] rfl (by decide +kernel) rfl rfl rfl 0 7 rfl rfl rfl hl.1 rfl (Nat.le_of_ble_eq_true rfl) dX7_stringOf_7 ⟨Nat.le_of_ble_eq_true rfl, Nat.le_of_ble_eq_true rfl⟩ (fun H locs hP hD hS => ?_)
  have hle := ss_le (B 0) b
  have hge := se_ge (B 0) (7 - b) b
  refine lv_isub hx hb dX7_stringOf_10 ?_
  refine lv_eqi (y := nI ((se (B 0) (7 - b) b) - (ss (B 0) b))) (pk_sub (a := se (B 0) (7 - b) b) (b := ss (B 0) b) (by omega)) ?_
  refine lv_iconst (v := 1) hx hb dX7_stringOf_11 (by decide) ?_
  refine lv_iadd hx hb dX7_stringOf_12 ?_
  refine lv_eqi (y := nI (((se (B 0) (7 - b) b) - (ss (B 0) b)) + 1)) (nI_add _ _) ?_
  refine hend _ _ _ _ _ ?_ hP hD hS dX7_stringOf_13
  exact rfl

set_option maxHeartbeats 4000000 in
set_option maxRecDepth 100000 in
theorem c_X7_fill (l : Launch) (D : va_G) (cI cZ cS cJ : ClassId) (m0 : Nat) (m1 : Nat) (m2 : Nat) (m3 : Nat) (th : Int32) (kp : Int32) (ln : Int32) (ca : Int32) (lt : Int32) (fi : Int32) (sd : Int32) (hs : Int64) (B : Nat → Nat → Nat → Int32) (T : Nat → Int32) (h : Nat → Int32) (z : Nat) (x : Int32) (y : Int32) (hz6 : z ≤ 6) (hG : GB (B 0)) (h6 : B 0 6 = ht (B 0)) : CE (U := (Int32) × (Nat → Nat → Nat → Int32) × (Int32) × (Nat → Int32) × (Int32)) l yX7_fill wsX7_fill ({ frames := 6, cells := 0, slots := 0, locals := 133 }) D (tyL cI cZ cS cJ) [.ref m0, .int x, .int y] (List.flatten [mdO m0 m1 m2 m3 th (nI z) kp ln ca lt fi sd hs, arC cI m1 1170 (enc B), arC cI m2 60 T, arC cI m3 8 h]) (fun u => (Res (k3 (isB x) (inR y 1 99) (wn0 (B 0) x.toNatClampNeg y = 0)) u.1 (B, nI z) (uA (savB B z) 0 (mended (filS (B 0) x.toNatClampNeg y)), nI (savZ z)) (u.2.1, u.2.2.1) (B 0 0 x.toNatClampNeg + y) u.2.2.2.2)) (fun u => some (.int u.2.2.2.2)) (fun u => List.flatten [mdO m0 m1 m2 m3 u.1 u.2.2.1 kp ln ca lt fi sd hs, arC cI m1 1170 (enc u.2.1), arC cI m2 60 T, arC cI m3 8 u.2.2.2.1]) 0 0 := by
  refine CE_int (cc := cX7_fill) (maxL := 4) (rt := .int) (by decide) rfl (Nat.le_of_ble_eq_true rfl) (fun _ _ => rfl) ?_
  intro p e s m below meth c A ls Q X hK hP hD hS hA hl hend
  have X : CallFix p m c cX7_fill 4 s ([.ref m0, .int x, .int y] : List Value).toArray wsX7_fill RX7 := X
  obtain ⟨hx, hb, hml, hown, hts⟩ := id X
  have hl : lv_has ls 4 [(0, .ref m0), (1, .int x), (2, .int y)] := hl
  refine lv_iload_n hx hb dX7_fill_0 rfl (lv_at hl 1 rfl) ?_
  refine kcallS (As := [.int x]) (rest := []) (Wn := [mdO m0 m1 m2 m3 th (nI z) kp ln ca lt fi sd hs, arC cI m1 1170 (enc B), arC cI m2 60 T, arC cI m3 8 h]) X (c_X7_isBalloon l D cI cZ cS cJ x) (va_cwS 1 hts gX7_fill_X7_isBalloon rfl rfl rfl (by decide +kernel) ⟨Nat.le_of_ble_eq_true rfl, Nat.le_of_ble_eq_true rfl⟩) hK hP hD hS hA [] rfl (by decide +kernel) rfl rfl rfl rfl hl.1 rfl (Nat.le_of_ble_eq_true rfl) dX7_fill_1 ⟨Nat.le_of_ble_eq_true rfl, Nat.le_of_ble_eq_true rfl⟩ (fun H locs hP hD hS => ?_)
  refine lv_istore_n (lv' := [(3, .int (b1 (¬ x < 0 ∧ ¬ 7 < x))), (0, .ref m0), (1, .int x), (2, .int y)]) hx hb dX7_fill_4 rfl hl (by decide) rfl (fun ls hl => ?_)
  refine lv_aload_n hx hb dX7_fill_5 rfl (lv_at hl 1 rfl) ?_
  refine lv_iload_n hx hb dX7_fill_6 rfl (lv_at hl 0 rfl) ?_
  refine lv_if_ne (tgt := 14) hx hb dX7_fill_7 (by decide) (fun c7 => ?_) (fun c7 => ?_)
  · skip
    obtain ⟨b, hb8, rfl⟩ := bal_of (b1_t c7)
    have hP : va_P D vwCl (List.flatten [mdO m0 m1 m2 m3 th (nI z) kp ln ca lt fi sd hs, arC cI m1 1170 (enc B), arC cI m2 60 T, arC cI m3 8 h]) _ := hP
    have hD : va_D A (List.flatten [mdO m0 m1 m2 m3 th (nI z) kp ln ca lt fi sd hs, arC cI m1 1170 (enc B), arC cI m2 60 T, arC cI m3 8 h]) := hD
    have hl : lv_has ls 4 [(3, .int (b1 (¬ (nI b) < 0 ∧ ¬ 7 < (nI b)))), (0, .ref m0), (1, .int (nI b)), (2, .int y)] := hl
    have ec : (nI b).toNatClampNeg = b := nI_clamp (by omega)
    refine lv_iload_n hx hb dX7_fill_14 rfl (lv_at hl 3 rfl) ?_
    refine kcallS (As := [.int y]) (rest := [.ref m0]) (Wn := [mdO m0 m1 m2 m3 th (nI z) kp ln ca lt fi sd hs, arC cI m1 1170 (enc B), arC cI m2 60 T, arC cI m3 8 h]) X (c_X7_isAmount l D cI cZ cS cJ y) (va_cwS 1 hts gX7_fill_X7_isAmount rfl rfl rfl (by decide +kernel) ⟨Nat.le_of_ble_eq_true rfl, Nat.le_of_ble_eq_true rfl⟩) hK hP hD hS hA [] rfl (by decide +kernel) rfl rfl rfl rfl hl.1 rfl (Nat.le_of_ble_eq_true rfl) dX7_fill_15 ⟨Nat.le_of_ble_eq_true rfl, Nat.le_of_ble_eq_true rfl⟩ (fun H locs hP hD hS => ?_)
    refine lv_if_ne (tgt := 25) hx hb dX7_fill_18 (by decide) (fun c18 => ?_) (fun c18 => ?_)
    · skip
      refine lv_aload_n hx hb dX7_fill_25 rfl (lv_at hl 1 rfl) ?_
      refine lv_iload_n hx hb dX7_fill_26 rfl (lv_at hl 2 rfl) ?_
      refine lv_iload_n hx hb dX7_fill_27 rfl (lv_at hl 3 rfl) ?_
      refine kcallV (As := [.int (nI b), .int y]) (rest := [.ref m0]) (Wn := [mdO m0 m1 m2 m3 th (nI z) kp ln ca lt fi sd hs, arC cI m1 1170 (enc B), arC cI m2 60 T, arC cI m3 8 (if 200 < B 0 0 b + y then h else ht (B 0))]) X (c_X7_noFill l D cI cZ cS cJ m0 m1 m2 m3 th (nI z) kp ln ca lt fi sd hs B T h b y (by omega) (GB_T hG)) (cwV 2 hts gX7_fill_X7_noFill rfl rfl rfl (by decide +kernel) ⟨Nat.le_of_ble_eq_true rfl, Nat.le_of_ble_eq_true rfl⟩) hK hP hD hS hA [0, 1, 2, 3] rfl (by decide +kernel) rfl rfl rfl 0 7 rfl rfl rfl hl.1 rfl (Nat.le_of_ble_eq_true rfl) dX7_fill_28 ⟨Nat.le_of_ble_eq_true rfl, Nat.le_of_ble_eq_true rfl⟩ (fun H locs hP hD hS => ?_)
      refine lv_eqi (y := wn0 (B 0) b y) (by rw [mend_id h6]) ?_
      refine lv_if_le (tgt := 38) hx hb dX7_fill_31 (by decide) (fun c31 => ?_) (fun c31 => ?_)
      · skip
        refine lv_iconst (v := 0) hx hb dX7_fill_38 (by decide) ?_
        refine kcallV (As := [.int 0]) (rest := []) (Wn := [mdO m0 m1 m2 m3 0 (nI z) kp ln ca lt fi sd hs, arC cI m1 1170 (enc B), arC cI m2 60 T, arC cI m3 8 (if 200 < B 0 0 b + y then h else ht (B 0))]) X (c_X7_holds l D cI cZ cS cJ m0 m1 m2 m3 th (nI z) kp ln ca lt fi sd hs B T (if 200 < B 0 0 b + y then h else ht (B 0)) 0) (cwV 1 hts gX7_fill_X7_holds rfl rfl rfl (by decide +kernel) ⟨Nat.le_of_ble_eq_true rfl, Nat.le_of_ble_eq_true rfl⟩) hK hP hD hS hA [0, 1, 2, 3] rfl (by decide +kernel) rfl rfl rfl 0 7 rfl rfl rfl hl.1 rfl (Nat.le_of_ble_eq_true rfl) dX7_fill_39 ⟨Nat.le_of_ble_eq_true rfl, Nat.le_of_ble_eq_true rfl⟩ (fun H locs hP hD hS => ?_)
        refine lv_eqi (y := 1) (by decide) ?_
        refine lv_if_ne (tgt := 47) hx hb dX7_fill_42 (by decide) (fun _ => ?_) (fun h => absurd h (by decide))
        refine lv_aload_n hx hb dX7_fill_47 rfl (lv_at hl 1 rfl) ?_
        refine kcallV (As := []) (rest := []) (Wn := [mdO m0 m1 m2 m3 0 (nI (savZ z)) kp ln ca lt fi sd hs, arC cI m1 1170 (enc (savB B z)), arC cI m2 60 T, arC cI m3 8 (if 200 < B 0 0 b + y then h else ht (B 0))]) X (c_X7_save l D cI cZ cS cJ m0 m1 m2 m3 0 kp ln ca lt fi sd hs B T (if 200 < B 0 0 b + y then h else ht (B 0)) z (by omega)) (cwV 0 hts gX7_fill_X7_save rfl rfl rfl (by decide +kernel) ⟨Nat.le_of_ble_eq_true rfl, Nat.le_of_ble_eq_true rfl⟩) hK hP hD hS hA [0, 1, 2, 3] rfl (by decide +kernel) rfl rfl rfl 0 7 rfl rfl rfl hl.1 rfl (Nat.le_of_ble_eq_true rfl) dX7_fill_48 ⟨Nat.le_of_ble_eq_true rfl, Nat.le_of_ble_eq_true rfl⟩ (fun H locs hP hD hS => ?_)
        refine lv_aload_n hx hb dX7_fill_51 rfl (lv_at hl 1 rfl) ?_
        refine lv_iload_n hx hb dX7_fill_52 rfl (lv_at hl 2 rfl) ?_
        refine lv_iload_n hx hb dX7_fill_53 rfl (lv_at hl 3 rfl) ?_
        refine kcallV (As := [.int (nI b), .int y]) (rest := []) (Wn := [mdO m0 m1 m2 m3 0 (nI (savZ z)) kp ln ca lt fi sd hs, arC cI m1 1170 (enc (uA (savB B z) 0 (u2 (u2 ((savB B z) 0) 0 b ((savB B z) 0 0 b + y)) 12 1 ((u2 ((savB B z) 0) 0 b ((savB B z) 0 0 b + y)) 12 1 + y)))), arC cI m2 60 T, arC cI m3 8 (if 200 < B 0 0 b + y then h else ht (B 0))]) X (c_X7_fills l D cI cZ cS cJ m0 m1 m2 m3 0 (nI (savZ z)) kp ln ca lt fi sd hs (savB B z) T (if 200 < B 0 0 b + y then h else ht (B 0)) b y (by omega)) (cwV 2 hts gX7_fill_X7_fills rfl rfl rfl (by decide +kernel) ⟨Nat.le_of_ble_eq_true rfl, Nat.le_of_ble_eq_true rfl⟩) hK hP hD hS hA [0, 1, 2, 3] rfl (by decide +kernel) rfl rfl rfl 0 7 rfl rfl rfl hl.1 rfl (Nat.le_of_ble_eq_true rfl) dX7_fill_54 ⟨Nat.le_of_ble_eq_true rfl, Nat.le_of_ble_eq_true rfl⟩ (fun H locs hP hD hS => ?_)
        obtain ⟨hP, hD⟩ := PD_cg hP hD 1 (enc (uA (savB B z) 0 (mended (filS (B 0) b y)))) rfl (fun j _ => by rw [sav_0]; exact enc_me _ (filS (B 0) b y) j) (wn := List.flatten [mdO m0 m1 m2 m3 0 (nI (savZ z)) kp ln ca lt fi sd hs, arC cI m1 1170 (enc (uA (savB B z) 0 (mended (filS (B 0) b y)))), arC cI m2 60 T, arC cI m3 8 (if 200 < B 0 0 b + y then h else ht (B 0))]) rfl
        refine hend (0, (uA (savB B z) 0 (mended (filS (B 0) b y))), nI (savZ z), (if 200 < B 0 0 b + y then h else ht (B 0)), (savB B z) 0 0 b + y) _ _ _ _ _ (by first | exact Res_bad (k3_1 (b1_z c7)) nz1 rfl | (rw [ec]; first | exact Res_bad (k3_2 (b1_t c7) (b1_z c18)) nz2 rfl | exact Res_bad (k3_3 (b1_t c7) (b1_t c18) (nz_le c31)) nz3 rfl | exact Res_ok (k3_0 (b1_t c7) (b1_t c18) (wn0_z c31)) rfl rfl (by rw [sav_0]))) ?_ hP hD hS dX7_fill_57
        exact rfl
      · skip
        refine lv_iconst (v := 3) hx hb dX7_fill_34 (by decide) ?_
        refine lv_goto (tgt := 39) hx hb dX7_fill_35 (by decide) ?_
        refine kcallV (As := [.int 3]) (rest := []) (Wn := [mdO m0 m1 m2 m3 3 (nI z) kp ln ca lt fi sd hs, arC cI m1 1170 (enc B), arC cI m2 60 T, arC cI m3 8 (if 200 < B 0 0 b + y then h else ht (B 0))]) X (c_X7_holds l D cI cZ cS cJ m0 m1 m2 m3 th (nI z) kp ln ca lt fi sd hs B T (if 200 < B 0 0 b + y then h else ht (B 0)) 3) (cwV 1 hts gX7_fill_X7_holds rfl rfl rfl (by decide +kernel) ⟨Nat.le_of_ble_eq_true rfl, Nat.le_of_ble_eq_true rfl⟩) hK hP hD hS hA [0, 1, 2, 3] rfl (by decide +kernel) rfl rfl rfl 0 7 rfl rfl rfl hl.1 rfl (Nat.le_of_ble_eq_true rfl) dX7_fill_39 ⟨Nat.le_of_ble_eq_true rfl, Nat.le_of_ble_eq_true rfl⟩ (fun H locs hP hD hS => ?_)
        refine lv_eqi (y := 0) (by decide) ?_
        refine lv_if_ne (tgt := 47) hx hb dX7_fill_42 (by decide) (fun h => absurd h (by decide)) (fun _ => ?_)
        refine lv_iconst (v := 0) hx hb dX7_fill_45 (by decide) ?_
        refine hend (3, B, nI z, (if 200 < B 0 0 b + y then h else ht (B 0)), 0) _ _ _ _ _ (by first | exact Res_bad (k3_1 (b1_z c7)) nz1 rfl | (rw [ec]; first | exact Res_bad (k3_2 (b1_t c7) (b1_z c18)) nz2 rfl | exact Res_bad (k3_3 (b1_t c7) (b1_t c18) (nz_le c31)) nz3 rfl | exact Res_ok (k3_0 (b1_t c7) (b1_t c18) (wn0_z c31)) rfl rfl (by rw [sav_0]))) ?_ hP hD hS dX7_fill_46
        exact rfl
    · skip
      refine lv_iconst (v := 2) hx hb dX7_fill_21 (by decide) ?_
      refine lv_goto (tgt := 39) hx hb dX7_fill_22 (by decide) ?_
      refine kcallV (As := [.int 2]) (rest := []) (Wn := [mdO m0 m1 m2 m3 2 (nI z) kp ln ca lt fi sd hs, arC cI m1 1170 (enc B), arC cI m2 60 T, arC cI m3 8 h]) X (c_X7_holds l D cI cZ cS cJ m0 m1 m2 m3 th (nI z) kp ln ca lt fi sd hs B T h 2) (cwV 1 hts gX7_fill_X7_holds rfl rfl rfl (by decide +kernel) ⟨Nat.le_of_ble_eq_true rfl, Nat.le_of_ble_eq_true rfl⟩) hK hP hD hS hA [0, 1, 2, 3] rfl (by decide +kernel) rfl rfl rfl 0 7 rfl rfl rfl hl.1 rfl (Nat.le_of_ble_eq_true rfl) dX7_fill_39 ⟨Nat.le_of_ble_eq_true rfl, Nat.le_of_ble_eq_true rfl⟩ (fun H locs hP hD hS => ?_)
      refine lv_eqi (y := 0) (by decide) ?_
      refine lv_if_ne (tgt := 47) hx hb dX7_fill_42 (by decide) (fun h => absurd h (by decide)) (fun _ => ?_)
      refine lv_iconst (v := 0) hx hb dX7_fill_45 (by decide) ?_
      refine hend (2, B, nI z, h, 0) _ _ _ _ _ (by first | exact Res_bad (k3_1 (b1_z c7)) nz1 rfl | (rw [ec]; first | exact Res_bad (k3_2 (b1_t c7) (b1_z c18)) nz2 rfl | exact Res_bad (k3_3 (b1_t c7) (b1_t c18) (nz_le c31)) nz3 rfl | exact Res_ok (k3_0 (b1_t c7) (b1_t c18) (wn0_z c31)) rfl rfl (by rw [sav_0]))) ?_ hP hD hS dX7_fill_46
      exact rfl
  · skip
    refine lv_iconst (v := 1) hx hb dX7_fill_10 (by decide) ?_
    refine lv_goto (tgt := 39) hx hb dX7_fill_11 (by decide) ?_
    refine kcallV (As := [.int 1]) (rest := []) (Wn := [mdO m0 m1 m2 m3 1 (nI z) kp ln ca lt fi sd hs, arC cI m1 1170 (enc B), arC cI m2 60 T, arC cI m3 8 h]) X (c_X7_holds l D cI cZ cS cJ m0 m1 m2 m3 th (nI z) kp ln ca lt fi sd hs B T h 1) (cwV 1 hts gX7_fill_X7_holds rfl rfl rfl (by decide +kernel) ⟨Nat.le_of_ble_eq_true rfl, Nat.le_of_ble_eq_true rfl⟩) hK hP hD hS hA [0, 1, 2, 3] rfl (by decide +kernel) rfl rfl rfl 0 7 rfl rfl rfl hl.1 rfl (Nat.le_of_ble_eq_true rfl) dX7_fill_39 ⟨Nat.le_of_ble_eq_true rfl, Nat.le_of_ble_eq_true rfl⟩ (fun H locs hP hD hS => ?_)
    refine lv_eqi (y := 0) (by decide) ?_
    refine lv_if_ne (tgt := 47) hx hb dX7_fill_42 (by decide) (fun h => absurd h (by decide)) (fun _ => ?_)
    refine lv_iconst (v := 0) hx hb dX7_fill_45 (by decide) ?_
    refine hend (1, B, nI z, h, 0) _ _ _ _ _ (by first | exact Res_bad (k3_1 (b1_z c7)) nz1 rfl | (rw [ec]; first | exact Res_bad (k3_2 (b1_t c7) (b1_z c18)) nz2 rfl | exact Res_bad (k3_3 (b1_t c7) (b1_t c18) (nz_le c31)) nz3 rfl | exact Res_ok (k3_0 (b1_t c7) (b1_t c18) (wn0_z c31)) rfl rfl (by rw [sav_0]))) ?_ hP hD hS dX7_fill_46
    exact rfl

set_option maxHeartbeats 4000000 in
set_option maxRecDepth 100000 in
theorem c_X7_vent (l : Launch) (D : va_G) (cI cZ cS cJ : ClassId) (m0 : Nat) (m1 : Nat) (m2 : Nat) (m3 : Nat) (th : Int32) (kp : Int32) (ln : Int32) (ca : Int32) (lt : Int32) (fi : Int32) (sd : Int32) (hs : Int64) (B : Nat → Nat → Nat → Int32) (T : Nat → Int32) (h : Nat → Int32) (z : Nat) (x : Int32) (y : Int32) (hz6 : z ≤ 6) (hG : GB (B 0)) (h6 : B 0 6 = ht (B 0)) : CE (U := (Int32) × (Nat → Nat → Nat → Int32) × (Int32) × (Nat → Int32) × (Int32)) l yX7_vent wsX7_vent ({ frames := 6, cells := 0, slots := 0, locals := 133 }) D (tyL cI cZ cS cJ) [.ref m0, .int x, .int y] (List.flatten [mdO m0 m1 m2 m3 th (nI z) kp ln ca lt fi sd hs, arC cI m1 1170 (enc B), arC cI m2 60 T, arC cI m3 8 h]) (fun u => (Res (k3 (isB x) (inR y 1 99) (wn1 (B 0) x.toNatClampNeg y = 0)) u.1 (B, nI z) (uA (savB B z) 0 (mended (venS (B 0) x.toNatClampNeg y)), nI (savZ z)) (u.2.1, u.2.2.1) (ht (venS (B 0) x.toNatClampNeg y) x.toNatClampNeg) u.2.2.2.2)) (fun u => some (.int u.2.2.2.2)) (fun u => List.flatten [mdO m0 m1 m2 m3 u.1 u.2.2.1 kp ln ca lt fi sd hs, arC cI m1 1170 (enc u.2.1), arC cI m2 60 T, arC cI m3 8 u.2.2.2.1]) 0 0 := by
  refine CE_int (cc := cX7_vent) (maxL := 4) (rt := .int) (by decide) rfl (Nat.le_of_ble_eq_true rfl) (fun _ _ => rfl) ?_
  intro p e s m below meth c A ls Q X hK hP hD hS hA hl hend
  have X : CallFix p m c cX7_vent 4 s ([.ref m0, .int x, .int y] : List Value).toArray wsX7_vent RX7 := X
  obtain ⟨hx, hb, hml, hown, hts⟩ := id X
  have hl : lv_has ls 4 [(0, .ref m0), (1, .int x), (2, .int y)] := hl
  refine lv_iload_n hx hb dX7_vent_0 rfl (lv_at hl 1 rfl) ?_
  refine kcallS (As := [.int x]) (rest := []) (Wn := [mdO m0 m1 m2 m3 th (nI z) kp ln ca lt fi sd hs, arC cI m1 1170 (enc B), arC cI m2 60 T, arC cI m3 8 h]) X (c_X7_isBalloon l D cI cZ cS cJ x) (va_cwS 1 hts gX7_vent_X7_isBalloon rfl rfl rfl (by decide +kernel) ⟨Nat.le_of_ble_eq_true rfl, Nat.le_of_ble_eq_true rfl⟩) hK hP hD hS hA [] rfl (by decide +kernel) rfl rfl rfl rfl hl.1 rfl (Nat.le_of_ble_eq_true rfl) dX7_vent_1 ⟨Nat.le_of_ble_eq_true rfl, Nat.le_of_ble_eq_true rfl⟩ (fun H locs hP hD hS => ?_)
  refine lv_istore_n (lv' := [(3, .int (b1 (¬ x < 0 ∧ ¬ 7 < x))), (0, .ref m0), (1, .int x), (2, .int y)]) hx hb dX7_vent_4 rfl hl (by decide) rfl (fun ls hl => ?_)
  refine lv_aload_n hx hb dX7_vent_5 rfl (lv_at hl 1 rfl) ?_
  refine lv_iload_n hx hb dX7_vent_6 rfl (lv_at hl 0 rfl) ?_
  refine lv_if_ne (tgt := 14) hx hb dX7_vent_7 (by decide) (fun c7 => ?_) (fun c7 => ?_)
  · skip
    obtain ⟨b, hb8, rfl⟩ := bal_of (b1_t c7)
    have hP : va_P D vwCl (List.flatten [mdO m0 m1 m2 m3 th (nI z) kp ln ca lt fi sd hs, arC cI m1 1170 (enc B), arC cI m2 60 T, arC cI m3 8 h]) _ := hP
    have hD : va_D A (List.flatten [mdO m0 m1 m2 m3 th (nI z) kp ln ca lt fi sd hs, arC cI m1 1170 (enc B), arC cI m2 60 T, arC cI m3 8 h]) := hD
    have hl : lv_has ls 4 [(3, .int (b1 (¬ (nI b) < 0 ∧ ¬ 7 < (nI b)))), (0, .ref m0), (1, .int (nI b)), (2, .int y)] := hl
    have ec : (nI b).toNatClampNeg = b := nI_clamp (by omega)
    refine lv_iload_n hx hb dX7_vent_14 rfl (lv_at hl 3 rfl) ?_
    refine kcallS (As := [.int y]) (rest := [.ref m0]) (Wn := [mdO m0 m1 m2 m3 th (nI z) kp ln ca lt fi sd hs, arC cI m1 1170 (enc B), arC cI m2 60 T, arC cI m3 8 h]) X (c_X7_isAmount l D cI cZ cS cJ y) (va_cwS 1 hts gX7_vent_X7_isAmount rfl rfl rfl (by decide +kernel) ⟨Nat.le_of_ble_eq_true rfl, Nat.le_of_ble_eq_true rfl⟩) hK hP hD hS hA [] rfl (by decide +kernel) rfl rfl rfl rfl hl.1 rfl (Nat.le_of_ble_eq_true rfl) dX7_vent_15 ⟨Nat.le_of_ble_eq_true rfl, Nat.le_of_ble_eq_true rfl⟩ (fun H locs hP hD hS => ?_)
    refine lv_if_ne (tgt := 25) hx hb dX7_vent_18 (by decide) (fun c18 => ?_) (fun c18 => ?_)
    · skip
      refine lv_aload_n hx hb dX7_vent_25 rfl (lv_at hl 1 rfl) ?_
      refine lv_iload_n hx hb dX7_vent_26 rfl (lv_at hl 2 rfl) ?_
      refine lv_iload_n hx hb dX7_vent_27 rfl (lv_at hl 3 rfl) ?_
      refine kcallV (As := [.int (nI b), .int y]) (rest := [.ref m0]) (Wn := [mdO m0 m1 m2 m3 th (nI z) kp ln ca lt fi sd hs, arC cI m1 1170 (enc B), arC cI m2 60 T, arC cI m3 8 h]) X (c_X7_noVent l D cI cZ cS cJ m0 m1 m2 m3 th (nI z) kp ln ca lt fi sd hs B T h b y (by omega)) (cwV 2 hts gX7_vent_X7_noVent rfl rfl rfl (by decide +kernel) ⟨Nat.le_of_ble_eq_true rfl, Nat.le_of_ble_eq_true rfl⟩) hK hP hD hS hA [0, 1, 2, 3] rfl (by decide +kernel) rfl rfl rfl 0 7 rfl rfl rfl hl.1 rfl (Nat.le_of_ble_eq_true rfl) dX7_vent_28 ⟨Nat.le_of_ble_eq_true rfl, Nat.le_of_ble_eq_true rfl⟩ (fun H locs hP hD hS => ?_)
      refine lv_if_le (tgt := 38) hx hb dX7_vent_31 (by decide) (fun c31 => ?_) (fun c31 => ?_)
      · skip
        refine lv_iconst (v := 0) hx hb dX7_vent_38 (by decide) ?_
        refine kcallV (As := [.int 0]) (rest := []) (Wn := [mdO m0 m1 m2 m3 0 (nI z) kp ln ca lt fi sd hs, arC cI m1 1170 (enc B), arC cI m2 60 T, arC cI m3 8 h]) X (c_X7_holds l D cI cZ cS cJ m0 m1 m2 m3 th (nI z) kp ln ca lt fi sd hs B T h 0) (cwV 1 hts gX7_vent_X7_holds rfl rfl rfl (by decide +kernel) ⟨Nat.le_of_ble_eq_true rfl, Nat.le_of_ble_eq_true rfl⟩) hK hP hD hS hA [0, 1, 2, 3] rfl (by decide +kernel) rfl rfl rfl 0 7 rfl rfl rfl hl.1 rfl (Nat.le_of_ble_eq_true rfl) dX7_vent_39 ⟨Nat.le_of_ble_eq_true rfl, Nat.le_of_ble_eq_true rfl⟩ (fun H locs hP hD hS => ?_)
        refine lv_eqi (y := 1) (by decide) ?_
        refine lv_if_ne (tgt := 47) hx hb dX7_vent_42 (by decide) (fun _ => ?_) (fun h => absurd h (by decide))
        refine lv_aload_n hx hb dX7_vent_47 rfl (lv_at hl 1 rfl) ?_
        refine kcallV (As := []) (rest := []) (Wn := [mdO m0 m1 m2 m3 0 (nI (savZ z)) kp ln ca lt fi sd hs, arC cI m1 1170 (enc (savB B z)), arC cI m2 60 T, arC cI m3 8 h]) X (c_X7_save l D cI cZ cS cJ m0 m1 m2 m3 0 kp ln ca lt fi sd hs B T h z (by omega)) (cwV 0 hts gX7_vent_X7_save rfl rfl rfl (by decide +kernel) ⟨Nat.le_of_ble_eq_true rfl, Nat.le_of_ble_eq_true rfl⟩) hK hP hD hS hA [0, 1, 2, 3] rfl (by decide +kernel) rfl rfl rfl 0 7 rfl rfl rfl hl.1 rfl (Nat.le_of_ble_eq_true rfl) dX7_vent_48 ⟨Nat.le_of_ble_eq_true rfl, Nat.le_of_ble_eq_true rfl⟩ (fun H locs hP hD hS => ?_)
        refine lv_aload_n hx hb dX7_vent_51 rfl (lv_at hl 1 rfl) ?_
        refine lv_iload_n hx hb dX7_vent_52 rfl (lv_at hl 2 rfl) ?_
        refine lv_iload_n hx hb dX7_vent_53 rfl (lv_at hl 3 rfl) ?_
        refine kcallV (As := [.int (nI b), .int y]) (rest := []) (Wn := [mdO m0 m1 m2 m3 0 (nI (savZ z)) kp ln ca lt fi sd hs, arC cI m1 1170 (enc (uA (savB B z) 0 (u2 (u2 ((savB B z) 0) 0 b ((savB B z) 0 0 b + -y)) 12 3 ((u2 ((savB B z) 0) 0 b ((savB B z) 0 0 b + -y)) 12 3 + y)))), arC cI m2 60 T, arC cI m3 8 (ht (u2 (u2 ((savB B z) 0) 0 b ((savB B z) 0 0 b + -y)) 12 3 ((u2 ((savB B z) 0) 0 b ((savB B z) 0 0 b + -y)) 12 3 + y)))]) X (c_X7_vents l D cI cZ cS cJ m0 m1 m2 m3 0 (nI (savZ z)) kp ln ca lt fi sd hs (savB B z) T h b y (by omega) (by rw [sav_0]; exact GB_T hG)) (cwV 2 hts gX7_vent_X7_vents rfl rfl rfl (by decide +kernel) ⟨Nat.le_of_ble_eq_true rfl, Nat.le_of_ble_eq_true rfl⟩) hK hP hD hS hA [0, 1, 2, 3] rfl (by decide +kernel) rfl rfl rfl 0 7 rfl rfl rfl hl.1 rfl (Nat.le_of_ble_eq_true rfl) dX7_vent_54 ⟨Nat.le_of_ble_eq_true rfl, Nat.le_of_ble_eq_true rfl⟩ (fun H locs hP hD hS => ?_)
        obtain ⟨hP, hD⟩ := PD_cg hP hD 1 (enc (uA (savB B z) 0 (mended (venS (B 0) b y)))) rfl (fun j _ => by rw [sav_0, ven_e]; exact enc_me _ (venS (B 0) b y) j) (wn := List.flatten [mdO m0 m1 m2 m3 0 (nI (savZ z)) kp ln ca lt fi sd hs, arC cI m1 1170 (enc (uA (savB B z) 0 (mended (venS (B 0) b y)))), arC cI m2 60 T, arC cI m3 8 (ht (u2 (u2 ((savB B z) 0) 0 b ((savB B z) 0 0 b + -y)) 12 3 ((u2 ((savB B z) 0) 0 b ((savB B z) 0 0 b + -y)) 12 3 + y)))]) rfl
        refine hend (0, (uA (savB B z) 0 (mended (venS (B 0) b y))), nI (savZ z), ht (u2 (u2 ((savB B z) 0) 0 b ((savB B z) 0 0 b + -y)) 12 3 ((u2 ((savB B z) 0) 0 b ((savB B z) 0 0 b + -y)) 12 3 + y)), ht (u2 (u2 ((savB B z) 0) 0 b ((savB B z) 0 0 b + -y)) 12 3 ((u2 ((savB B z) 0) 0 b ((savB B z) 0 0 b + -y)) 12 3 + y)) b) _ _ _ _ _ (by first | exact Res_bad (k3_1 (b1_z c7)) nz1 rfl | (rw [ec]; first | exact Res_bad (k3_2 (b1_t c7) (b1_z c18)) nz2 rfl | exact Res_bad (k3_3 (b1_t c7) (b1_t c18) (nz_le c31)) nz3 rfl | exact Res_ok (k3_0 (b1_t c7) (b1_t c18) (wn1_z c31)) rfl rfl (by rw [sav_0, ven_e]))) ?_ hP hD hS dX7_vent_57
        exact rfl
      · skip
        refine lv_iconst (v := 3) hx hb dX7_vent_34 (by decide) ?_
        refine lv_goto (tgt := 39) hx hb dX7_vent_35 (by decide) ?_
        refine kcallV (As := [.int 3]) (rest := []) (Wn := [mdO m0 m1 m2 m3 3 (nI z) kp ln ca lt fi sd hs, arC cI m1 1170 (enc B), arC cI m2 60 T, arC cI m3 8 h]) X (c_X7_holds l D cI cZ cS cJ m0 m1 m2 m3 th (nI z) kp ln ca lt fi sd hs B T h 3) (cwV 1 hts gX7_vent_X7_holds rfl rfl rfl (by decide +kernel) ⟨Nat.le_of_ble_eq_true rfl, Nat.le_of_ble_eq_true rfl⟩) hK hP hD hS hA [0, 1, 2, 3] rfl (by decide +kernel) rfl rfl rfl 0 7 rfl rfl rfl hl.1 rfl (Nat.le_of_ble_eq_true rfl) dX7_vent_39 ⟨Nat.le_of_ble_eq_true rfl, Nat.le_of_ble_eq_true rfl⟩ (fun H locs hP hD hS => ?_)
        refine lv_eqi (y := 0) (by decide) ?_
        refine lv_if_ne (tgt := 47) hx hb dX7_vent_42 (by decide) (fun h => absurd h (by decide)) (fun _ => ?_)
        refine lv_iconst (v := 0) hx hb dX7_vent_45 (by decide) ?_
        refine hend (3, B, nI z, h, 0) _ _ _ _ _ (by first | exact Res_bad (k3_1 (b1_z c7)) nz1 rfl | (rw [ec]; first | exact Res_bad (k3_2 (b1_t c7) (b1_z c18)) nz2 rfl | exact Res_bad (k3_3 (b1_t c7) (b1_t c18) (nz_le c31)) nz3 rfl | exact Res_ok (k3_0 (b1_t c7) (b1_t c18) (wn1_z c31)) rfl rfl (by rw [sav_0, ven_e]))) ?_ hP hD hS dX7_vent_46
        exact rfl
    · skip
      refine lv_iconst (v := 2) hx hb dX7_vent_21 (by decide) ?_
      refine lv_goto (tgt := 39) hx hb dX7_vent_22 (by decide) ?_
      refine kcallV (As := [.int 2]) (rest := []) (Wn := [mdO m0 m1 m2 m3 2 (nI z) kp ln ca lt fi sd hs, arC cI m1 1170 (enc B), arC cI m2 60 T, arC cI m3 8 h]) X (c_X7_holds l D cI cZ cS cJ m0 m1 m2 m3 th (nI z) kp ln ca lt fi sd hs B T h 2) (cwV 1 hts gX7_vent_X7_holds rfl rfl rfl (by decide +kernel) ⟨Nat.le_of_ble_eq_true rfl, Nat.le_of_ble_eq_true rfl⟩) hK hP hD hS hA [0, 1, 2, 3] rfl (by decide +kernel) rfl rfl rfl 0 7 rfl rfl rfl hl.1 rfl (Nat.le_of_ble_eq_true rfl) dX7_vent_39 ⟨Nat.le_of_ble_eq_true rfl, Nat.le_of_ble_eq_true rfl⟩ (fun H locs hP hD hS => ?_)
      refine lv_eqi (y := 0) (by decide) ?_
      refine lv_if_ne (tgt := 47) hx hb dX7_vent_42 (by decide) (fun h => absurd h (by decide)) (fun _ => ?_)
      refine lv_iconst (v := 0) hx hb dX7_vent_45 (by decide) ?_
      refine hend (2, B, nI z, h, 0) _ _ _ _ _ (by first | exact Res_bad (k3_1 (b1_z c7)) nz1 rfl | (rw [ec]; first | exact Res_bad (k3_2 (b1_t c7) (b1_z c18)) nz2 rfl | exact Res_bad (k3_3 (b1_t c7) (b1_t c18) (nz_le c31)) nz3 rfl | exact Res_ok (k3_0 (b1_t c7) (b1_t c18) (wn1_z c31)) rfl rfl (by rw [sav_0, ven_e]))) ?_ hP hD hS dX7_vent_46
      exact rfl
  · skip
    refine lv_iconst (v := 1) hx hb dX7_vent_10 (by decide) ?_
    refine lv_goto (tgt := 39) hx hb dX7_vent_11 (by decide) ?_
    refine kcallV (As := [.int 1]) (rest := []) (Wn := [mdO m0 m1 m2 m3 1 (nI z) kp ln ca lt fi sd hs, arC cI m1 1170 (enc B), arC cI m2 60 T, arC cI m3 8 h]) X (c_X7_holds l D cI cZ cS cJ m0 m1 m2 m3 th (nI z) kp ln ca lt fi sd hs B T h 1) (cwV 1 hts gX7_vent_X7_holds rfl rfl rfl (by decide +kernel) ⟨Nat.le_of_ble_eq_true rfl, Nat.le_of_ble_eq_true rfl⟩) hK hP hD hS hA [0, 1, 2, 3] rfl (by decide +kernel) rfl rfl rfl 0 7 rfl rfl rfl hl.1 rfl (Nat.le_of_ble_eq_true rfl) dX7_vent_39 ⟨Nat.le_of_ble_eq_true rfl, Nat.le_of_ble_eq_true rfl⟩ (fun H locs hP hD hS => ?_)
    refine lv_eqi (y := 0) (by decide) ?_
    refine lv_if_ne (tgt := 47) hx hb dX7_vent_42 (by decide) (fun h => absurd h (by decide)) (fun _ => ?_)
    refine lv_iconst (v := 0) hx hb dX7_vent_45 (by decide) ?_
    refine hend (1, B, nI z, h, 0) _ _ _ _ _ (by first | exact Res_bad (k3_1 (b1_z c7)) nz1 rfl | (rw [ec]; first | exact Res_bad (k3_2 (b1_t c7) (b1_z c18)) nz2 rfl | exact Res_bad (k3_3 (b1_t c7) (b1_t c18) (nz_le c31)) nz3 rfl | exact Res_ok (k3_0 (b1_t c7) (b1_t c18) (wn1_z c31)) rfl rfl (by rw [sav_0, ven_e]))) ?_ hP hD hS dX7_vent_46
    exact rfl

set_option maxHeartbeats 4000000 in
set_option maxRecDepth 100000 in
theorem c_X7_drop (l : Launch) (D : va_G) (cI cZ cS cJ : ClassId) (m0 : Nat) (m1 : Nat) (m2 : Nat) (m3 : Nat) (th : Int32) (kp : Int32) (ln : Int32) (ca : Int32) (lt : Int32) (fi : Int32) (sd : Int32) (hs : Int64) (B : Nat → Nat → Nat → Int32) (T : Nat → Int32) (h : Nat → Int32) (z : Nat) (x : Int32) (hz6 : z ≤ 6) (hG : GB (B 0)) (h6 : B 0 6 = ht (B 0)) : CE (U := (Int32) × (Nat → Nat → Nat → Int32) × (Int32) × (Nat → Int32) × (Int32)) l yX7_drop wsX7_drop ({ frames := 6, cells := 0, slots := 0, locals := 132 }) D (tyL cI cZ cS cJ) [.ref m0, .int x] (List.flatten [mdO m0 m1 m2 m3 th (nI z) kp ln ca lt fi sd hs, arC cI m1 1170 (enc B), arC cI m2 60 T, arC cI m3 8 h]) (fun u => (Res (k2 (isB x) (wn2 (B 0) x.toNatClampNeg = 0)) u.1 (B, nI z) (uA (savB B z) 0 (mended (droS (B 0) x.toNatClampNeg)), nI (savZ z)) (u.2.1, u.2.2.1) (ht (droS (B 0) x.toNatClampNeg) x.toNatClampNeg) u.2.2.2.2)) (fun u => some (.int u.2.2.2.2)) (fun u => List.flatten [mdO m0 m1 m2 m3 u.1 u.2.2.1 kp ln ca lt fi sd hs, arC cI m1 1170 (enc u.2.1), arC cI m2 60 T, arC cI m3 8 u.2.2.2.1]) 0 0 := by
  refine CE_int (cc := cX7_drop) (maxL := 3) (rt := .int) (by decide) rfl (Nat.le_of_ble_eq_true rfl) (fun _ _ => rfl) ?_
  intro p e s m below meth c A ls Q X hK hP hD hS hA hl hend
  have X : CallFix p m c cX7_drop 3 s ([.ref m0, .int x] : List Value).toArray wsX7_drop RX7 := X
  obtain ⟨hx, hb, hml, hown, hts⟩ := id X
  have hl : lv_has ls 3 [(0, .ref m0), (1, .int x)] := hl
  refine lv_iload_n hx hb dX7_drop_0 rfl (lv_at hl 1 rfl) ?_
  refine kcallS (As := [.int x]) (rest := []) (Wn := [mdO m0 m1 m2 m3 th (nI z) kp ln ca lt fi sd hs, arC cI m1 1170 (enc B), arC cI m2 60 T, arC cI m3 8 h]) X (c_X7_isBalloon l D cI cZ cS cJ x) (va_cwS 1 hts gX7_drop_X7_isBalloon rfl rfl rfl (by decide +kernel) ⟨Nat.le_of_ble_eq_true rfl, Nat.le_of_ble_eq_true rfl⟩) hK hP hD hS hA [] rfl (by decide +kernel) rfl rfl rfl rfl hl.1 rfl (Nat.le_of_ble_eq_true rfl) dX7_drop_1 ⟨Nat.le_of_ble_eq_true rfl, Nat.le_of_ble_eq_true rfl⟩ (fun H locs hP hD hS => ?_)
  refine lv_istore_n (lv' := [(2, .int (b1 (¬ x < 0 ∧ ¬ 7 < x))), (0, .ref m0), (1, .int x)]) hx hb dX7_drop_4 rfl hl (by decide) rfl (fun ls hl => ?_)
  refine lv_aload_n hx hb dX7_drop_5 rfl (lv_at hl 1 rfl) ?_
  refine lv_iload_n hx hb dX7_drop_6 rfl (lv_at hl 0 rfl) ?_
  refine lv_if_ne (tgt := 14) hx hb dX7_drop_7 (by decide) (fun c7 => ?_) (fun c7 => ?_)
  · skip
    obtain ⟨b, hb8, rfl⟩ := bal_of (b1_t c7)
    have hP : va_P D vwCl (List.flatten [mdO m0 m1 m2 m3 th (nI z) kp ln ca lt fi sd hs, arC cI m1 1170 (enc B), arC cI m2 60 T, arC cI m3 8 h]) _ := hP
    have hD : va_D A (List.flatten [mdO m0 m1 m2 m3 th (nI z) kp ln ca lt fi sd hs, arC cI m1 1170 (enc B), arC cI m2 60 T, arC cI m3 8 h]) := hD
    have hl : lv_has ls 3 [(2, .int (b1 (¬ (nI b) < 0 ∧ ¬ 7 < (nI b)))), (0, .ref m0), (1, .int (nI b))] := hl
    have ec : (nI b).toNatClampNeg = b := nI_clamp (by omega)
    refine lv_aload_n hx hb dX7_drop_14 rfl (lv_at hl 1 rfl) ?_
    refine lv_iload_n hx hb dX7_drop_15 rfl (lv_at hl 2 rfl) ?_
    refine kcallV (As := [.int (nI b)]) (rest := [.ref m0]) (Wn := [mdO m0 m1 m2 m3 th (nI z) kp ln ca lt fi sd hs, arC cI m1 1170 (enc B), arC cI m2 60 T, arC cI m3 8 h]) X (c_X7_noDrop l D cI cZ cS cJ m0 m1 m2 m3 th (nI z) kp ln ca lt fi sd hs B T h b (by omega)) (cwV 1 hts gX7_drop_X7_noDrop rfl rfl rfl (by decide +kernel) ⟨Nat.le_of_ble_eq_true rfl, Nat.le_of_ble_eq_true rfl⟩) hK hP hD hS hA [0, 1, 2, 3] rfl (by decide +kernel) rfl rfl rfl 0 7 rfl rfl rfl hl.1 rfl (Nat.le_of_ble_eq_true rfl) dX7_drop_16 ⟨Nat.le_of_ble_eq_true rfl, Nat.le_of_ble_eq_true rfl⟩ (fun H locs hP hD hS => ?_)
    refine lv_if_le (tgt := 26) hx hb dX7_drop_19 (by decide) (fun c19 => ?_) (fun c19 => ?_)
    · skip
      refine lv_iconst (v := 0) hx hb dX7_drop_26 (by decide) ?_
      refine kcallV (As := [.int 0]) (rest := []) (Wn := [mdO m0 m1 m2 m3 0 (nI z) kp ln ca lt fi sd hs, arC cI m1 1170 (enc B), arC cI m2 60 T, arC cI m3 8 h]) X (c_X7_holds l D cI cZ cS cJ m0 m1 m2 m3 th (nI z) kp ln ca lt fi sd hs B T h 0) (cwV 1 hts gX7_drop_X7_holds rfl rfl rfl (by decide +kernel) ⟨Nat.le_of_ble_eq_true rfl, Nat.le_of_ble_eq_true rfl⟩) hK hP hD hS hA [0, 1, 2, 3] rfl (by decide +kernel) rfl rfl rfl 0 7 rfl rfl rfl hl.1 rfl (Nat.le_of_ble_eq_true rfl) dX7_drop_27 ⟨Nat.le_of_ble_eq_true rfl, Nat.le_of_ble_eq_true rfl⟩ (fun H locs hP hD hS => ?_)
      refine lv_eqi (y := 1) (by decide) ?_
      refine lv_if_ne (tgt := 35) hx hb dX7_drop_30 (by decide) (fun _ => ?_) (fun h => absurd h (by decide))
      refine lv_aload_n hx hb dX7_drop_35 rfl (lv_at hl 1 rfl) ?_
      refine kcallV (As := []) (rest := []) (Wn := [mdO m0 m1 m2 m3 0 (nI (savZ z)) kp ln ca lt fi sd hs, arC cI m1 1170 (enc (savB B z)), arC cI m2 60 T, arC cI m3 8 h]) X (c_X7_save l D cI cZ cS cJ m0 m1 m2 m3 0 kp ln ca lt fi sd hs B T h z (by omega)) (cwV 0 hts gX7_drop_X7_save rfl rfl rfl (by decide +kernel) ⟨Nat.le_of_ble_eq_true rfl, Nat.le_of_ble_eq_true rfl⟩) hK hP hD hS hA [0, 1, 2, 3] rfl (by decide +kernel) rfl rfl rfl 0 7 rfl rfl rfl hl.1 rfl (Nat.le_of_ble_eq_true rfl) dX7_drop_36 ⟨Nat.le_of_ble_eq_true rfl, Nat.le_of_ble_eq_true rfl⟩ (fun H locs hP hD hS => ?_)
      refine lv_aload_n hx hb dX7_drop_39 rfl (lv_at hl 1 rfl) ?_
      refine lv_iload_n hx hb dX7_drop_40 rfl (lv_at hl 2 rfl) ?_
      refine kcallV (As := [.int (nI b)]) (rest := []) (Wn := [mdO m0 m1 m2 m3 0 (nI (savZ z)) kp ln ca lt fi sd hs, arC cI m1 1170 (enc (uA (savB B z) 0 (u2 (u2 ((savB B z) 0) 1 b ((savB B z) 0 1 b + (-1))) 12 5 ((u2 ((savB B z) 0) 1 b ((savB B z) 0 1 b + (-1))) 12 5 + 1)))), arC cI m2 60 T, arC cI m3 8 (ht (u2 (u2 ((savB B z) 0) 1 b ((savB B z) 0 1 b + (-1))) 12 5 ((u2 ((savB B z) 0) 1 b ((savB B z) 0 1 b + (-1))) 12 5 + 1)))]) X (c_X7_drops l D cI cZ cS cJ m0 m1 m2 m3 0 (nI (savZ z)) kp ln ca lt fi sd hs (savB B z) T h b (by omega) (by rw [sav_0]; exact GB_T hG)) (cwV 1 hts gX7_drop_X7_drops rfl rfl rfl (by decide +kernel) ⟨Nat.le_of_ble_eq_true rfl, Nat.le_of_ble_eq_true rfl⟩) hK hP hD hS hA [0, 1, 2, 3] rfl (by decide +kernel) rfl rfl rfl 0 7 rfl rfl rfl hl.1 rfl (Nat.le_of_ble_eq_true rfl) dX7_drop_41 ⟨Nat.le_of_ble_eq_true rfl, Nat.le_of_ble_eq_true rfl⟩ (fun H locs hP hD hS => ?_)
      obtain ⟨hP, hD⟩ := PD_cg hP hD 1 (enc (uA (savB B z) 0 (mended (droS (B 0) b)))) rfl (fun j _ => by rw [sav_0, dro_e]; exact enc_me _ (droS (B 0) b) j) (wn := List.flatten [mdO m0 m1 m2 m3 0 (nI (savZ z)) kp ln ca lt fi sd hs, arC cI m1 1170 (enc (uA (savB B z) 0 (mended (droS (B 0) b)))), arC cI m2 60 T, arC cI m3 8 (ht (u2 (u2 ((savB B z) 0) 1 b ((savB B z) 0 1 b + (-1))) 12 5 ((u2 ((savB B z) 0) 1 b ((savB B z) 0 1 b + (-1))) 12 5 + 1)))]) rfl
      refine hend (0, (uA (savB B z) 0 (mended (droS (B 0) b))), nI (savZ z), ht (u2 (u2 ((savB B z) 0) 1 b ((savB B z) 0 1 b + (-1))) 12 5 ((u2 ((savB B z) 0) 1 b ((savB B z) 0 1 b + (-1))) 12 5 + 1)), ht (u2 (u2 ((savB B z) 0) 1 b ((savB B z) 0 1 b + (-1))) 12 5 ((u2 ((savB B z) 0) 1 b ((savB B z) 0 1 b + (-1))) 12 5 + 1)) b) _ _ _ _ _ (by first | exact Res_bad (k2_1 (b1_z c7)) nz1 rfl | (rw [ec]; first | exact Res_bad (k2_2 (b1_t c7) (nz_le c19)) nz2 rfl | exact Res_ok (k2_0 (b1_t c7) (wn2_z c19)) rfl rfl (by rw [sav_0, dro_e]))) ?_ hP hD hS dX7_drop_44
      exact rfl
    · skip
      refine lv_iconst (v := 2) hx hb dX7_drop_22 (by decide) ?_
      refine lv_goto (tgt := 27) hx hb dX7_drop_23 (by decide) ?_
      refine kcallV (As := [.int 2]) (rest := []) (Wn := [mdO m0 m1 m2 m3 2 (nI z) kp ln ca lt fi sd hs, arC cI m1 1170 (enc B), arC cI m2 60 T, arC cI m3 8 h]) X (c_X7_holds l D cI cZ cS cJ m0 m1 m2 m3 th (nI z) kp ln ca lt fi sd hs B T h 2) (cwV 1 hts gX7_drop_X7_holds rfl rfl rfl (by decide +kernel) ⟨Nat.le_of_ble_eq_true rfl, Nat.le_of_ble_eq_true rfl⟩) hK hP hD hS hA [0, 1, 2, 3] rfl (by decide +kernel) rfl rfl rfl 0 7 rfl rfl rfl hl.1 rfl (Nat.le_of_ble_eq_true rfl) dX7_drop_27 ⟨Nat.le_of_ble_eq_true rfl, Nat.le_of_ble_eq_true rfl⟩ (fun H locs hP hD hS => ?_)
      refine lv_eqi (y := 0) (by decide) ?_
      refine lv_if_ne (tgt := 35) hx hb dX7_drop_30 (by decide) (fun h => absurd h (by decide)) (fun _ => ?_)
      refine lv_iconst (v := 0) hx hb dX7_drop_33 (by decide) ?_
      refine hend (2, B, nI z, h, 0) _ _ _ _ _ (by first | exact Res_bad (k2_1 (b1_z c7)) nz1 rfl | (rw [ec]; first | exact Res_bad (k2_2 (b1_t c7) (nz_le c19)) nz2 rfl | exact Res_ok (k2_0 (b1_t c7) (wn2_z c19)) rfl rfl (by rw [sav_0, dro_e]))) ?_ hP hD hS dX7_drop_34
      exact rfl
  · skip
    refine lv_iconst (v := 1) hx hb dX7_drop_10 (by decide) ?_
    refine lv_goto (tgt := 27) hx hb dX7_drop_11 (by decide) ?_
    refine kcallV (As := [.int 1]) (rest := []) (Wn := [mdO m0 m1 m2 m3 1 (nI z) kp ln ca lt fi sd hs, arC cI m1 1170 (enc B), arC cI m2 60 T, arC cI m3 8 h]) X (c_X7_holds l D cI cZ cS cJ m0 m1 m2 m3 th (nI z) kp ln ca lt fi sd hs B T h 1) (cwV 1 hts gX7_drop_X7_holds rfl rfl rfl (by decide +kernel) ⟨Nat.le_of_ble_eq_true rfl, Nat.le_of_ble_eq_true rfl⟩) hK hP hD hS hA [0, 1, 2, 3] rfl (by decide +kernel) rfl rfl rfl 0 7 rfl rfl rfl hl.1 rfl (Nat.le_of_ble_eq_true rfl) dX7_drop_27 ⟨Nat.le_of_ble_eq_true rfl, Nat.le_of_ble_eq_true rfl⟩ (fun H locs hP hD hS => ?_)
    refine lv_eqi (y := 0) (by decide) ?_
    refine lv_if_ne (tgt := 35) hx hb dX7_drop_30 (by decide) (fun h => absurd h (by decide)) (fun _ => ?_)
    refine lv_iconst (v := 0) hx hb dX7_drop_33 (by decide) ?_
    refine hend (1, B, nI z, h, 0) _ _ _ _ _ (by first | exact Res_bad (k2_1 (b1_z c7)) nz1 rfl | (rw [ec]; first | exact Res_bad (k2_2 (b1_t c7) (nz_le c19)) nz2 rfl | exact Res_ok (k2_0 (b1_t c7) (wn2_z c19)) rfl rfl (by rw [sav_0, dro_e]))) ?_ hP hD hS dX7_drop_34
    exact rfl

set_option maxHeartbeats 4000000 in
set_option maxRecDepth 100000 in
theorem c_X7_put (l : Launch) (D : va_G) (cI cZ cS cJ : ClassId) (m0 : Nat) (m1 : Nat) (m2 : Nat) (m3 : Nat) (th : Int32) (kp : Int32) (ln : Int32) (ca : Int32) (lt : Int32) (fi : Int32) (sd : Int32) (hs : Int64) (B : Nat → Nat → Nat → Int32) (T : Nat → Int32) (h : Nat → Int32) (z : Nat) (x : Int32) (hz6 : z ≤ 6) (hG : GB (B 0)) (h6 : B 0 6 = ht (B 0)) : CE (U := (Int32) × (Nat → Nat → Nat → Int32) × (Int32) × (Nat → Int32) × (Int32)) l yX7_put wsX7_put ({ frames := 6, cells := 0, slots := 0, locals := 132 }) D (tyL cI cZ cS cJ) [.ref m0, .int x] (List.flatten [mdO m0 m1 m2 m3 th (nI z) kp ln ca lt fi sd hs, arC cI m1 1170 (enc B), arC cI m2 60 T, arC cI m3 8 h]) (fun u => (Res (k2 (isB x) (wn3 (B 0) x.toNatClampNeg = 0)) u.1 (B, nI z) (uA (savB B z) 0 (mended (putS (B 0) x.toNatClampNeg)), nI (savZ z)) (u.2.1, u.2.2.1) (B 0 1 x.toNatClampNeg + 1) u.2.2.2.2)) (fun u => some (.int u.2.2.2.2)) (fun u => List.flatten [mdO m0 m1 m2 m3 u.1 u.2.2.1 kp ln ca lt fi sd hs, arC cI m1 1170 (enc u.2.1), arC cI m2 60 T, arC cI m3 8 u.2.2.2.1]) 0 0 := by
  refine CE_int (cc := cX7_put) (maxL := 3) (rt := .int) (by decide) rfl (Nat.le_of_ble_eq_true rfl) (fun _ _ => rfl) ?_
  intro p e s m below meth c A ls Q X hK hP hD hS hA hl hend
  have X : CallFix p m c cX7_put 3 s ([.ref m0, .int x] : List Value).toArray wsX7_put RX7 := X
  obtain ⟨hx, hb, hml, hown, hts⟩ := id X
  have hl : lv_has ls 3 [(0, .ref m0), (1, .int x)] := hl
  refine lv_iload_n hx hb dX7_put_0 rfl (lv_at hl 1 rfl) ?_
  refine kcallS (As := [.int x]) (rest := []) (Wn := [mdO m0 m1 m2 m3 th (nI z) kp ln ca lt fi sd hs, arC cI m1 1170 (enc B), arC cI m2 60 T, arC cI m3 8 h]) X (c_X7_isBalloon l D cI cZ cS cJ x) (va_cwS 1 hts gX7_put_X7_isBalloon rfl rfl rfl (by decide +kernel) ⟨Nat.le_of_ble_eq_true rfl, Nat.le_of_ble_eq_true rfl⟩) hK hP hD hS hA [] rfl (by decide +kernel) rfl rfl rfl rfl hl.1 rfl (Nat.le_of_ble_eq_true rfl) dX7_put_1 ⟨Nat.le_of_ble_eq_true rfl, Nat.le_of_ble_eq_true rfl⟩ (fun H locs hP hD hS => ?_)
  refine lv_istore_n (lv' := [(2, .int (b1 (¬ x < 0 ∧ ¬ 7 < x))), (0, .ref m0), (1, .int x)]) hx hb dX7_put_4 rfl hl (by decide) rfl (fun ls hl => ?_)
  refine lv_aload_n hx hb dX7_put_5 rfl (lv_at hl 1 rfl) ?_
  refine lv_iload_n hx hb dX7_put_6 rfl (lv_at hl 0 rfl) ?_
  refine lv_if_ne (tgt := 14) hx hb dX7_put_7 (by decide) (fun c7 => ?_) (fun c7 => ?_)
  · skip
    obtain ⟨b, hb8, rfl⟩ := bal_of (b1_t c7)
    have hP : va_P D vwCl (List.flatten [mdO m0 m1 m2 m3 th (nI z) kp ln ca lt fi sd hs, arC cI m1 1170 (enc B), arC cI m2 60 T, arC cI m3 8 h]) _ := hP
    have hD : va_D A (List.flatten [mdO m0 m1 m2 m3 th (nI z) kp ln ca lt fi sd hs, arC cI m1 1170 (enc B), arC cI m2 60 T, arC cI m3 8 h]) := hD
    have hl : lv_has ls 3 [(2, .int (b1 (¬ (nI b) < 0 ∧ ¬ 7 < (nI b)))), (0, .ref m0), (1, .int (nI b))] := hl
    have ec : (nI b).toNatClampNeg = b := nI_clamp (by omega)
    refine lv_aload_n hx hb dX7_put_14 rfl (lv_at hl 1 rfl) ?_
    refine lv_iload_n hx hb dX7_put_15 rfl (lv_at hl 2 rfl) ?_
    refine kcallVE (As := [.int (nI b)]) (rest := [.ref m0]) (Wn := fun u => [mdO m0 m1 m2 m3 th (nI z) kp ln ca lt fi sd hs, arC cI m1 1170 (enc B), arC cI m2 60 T, arC cI m3 8 u]) X (c_X7_noPut l D cI cZ cS cJ m0 m1 m2 m3 th (nI z) kp ln ca lt fi sd hs B T h b (by omega) hG h6) (cwV 1 hts gX7_put_X7_noPut rfl rfl rfl (by decide +kernel) ⟨Nat.le_of_ble_eq_true rfl, Nat.le_of_ble_eq_true rfl⟩) hK hP hD hS hA [0, 1, 2, 3] rfl (by decide +kernel) (fun _ => rfl) (fun _ => rfl) (fun _ => rfl) 0 7 rfl rfl rfl hl.1 rfl (Nat.le_of_ble_eq_true rfl) dX7_put_16 ⟨Nat.le_of_ble_eq_true rfl, Nat.le_of_ble_eq_true rfl⟩ (fun h9_1 H locs hu hP hD hS => ?_)
    have hP : va_P D vwCl (List.flatten [mdO m0 m1 m2 m3 th (nI z) kp ln ca lt fi sd hs, arC cI m1 1170 (enc B), arC cI m2 60 T, arC cI m3 8 h9_1]) _ := hP
    have hD : va_D A (List.flatten [mdO m0 m1 m2 m3 th (nI z) kp ln ca lt fi sd hs, arC cI m1 1170 (enc B), arC cI m2 60 T, arC cI m3 8 h9_1]) := hD
    refine lv_if_le (tgt := 26) hx hb dX7_put_19 (by decide) (fun c19 => ?_) (fun c19 => ?_)
    · skip
      refine lv_iconst (v := 0) hx hb dX7_put_26 (by decide) ?_
      refine kcallV (As := [.int 0]) (rest := []) (Wn := [mdO m0 m1 m2 m3 0 (nI z) kp ln ca lt fi sd hs, arC cI m1 1170 (enc B), arC cI m2 60 T, arC cI m3 8 h9_1]) X (c_X7_holds l D cI cZ cS cJ m0 m1 m2 m3 th (nI z) kp ln ca lt fi sd hs B T h9_1 0) (cwV 1 hts gX7_put_X7_holds rfl rfl rfl (by decide +kernel) ⟨Nat.le_of_ble_eq_true rfl, Nat.le_of_ble_eq_true rfl⟩) hK hP hD hS hA [0, 1, 2, 3] rfl (by decide +kernel) rfl rfl rfl 0 7 rfl rfl rfl hl.1 rfl (Nat.le_of_ble_eq_true rfl) dX7_put_27 ⟨Nat.le_of_ble_eq_true rfl, Nat.le_of_ble_eq_true rfl⟩ (fun H locs hP hD hS => ?_)
      refine lv_eqi (y := 1) (by decide) ?_
      refine lv_if_ne (tgt := 35) hx hb dX7_put_30 (by decide) (fun _ => ?_) (fun h => absurd h (by decide))
      refine lv_aload_n hx hb dX7_put_35 rfl (lv_at hl 1 rfl) ?_
      refine kcallV (As := []) (rest := []) (Wn := [mdO m0 m1 m2 m3 0 (nI (savZ z)) kp ln ca lt fi sd hs, arC cI m1 1170 (enc (savB B z)), arC cI m2 60 T, arC cI m3 8 h9_1]) X (c_X7_save l D cI cZ cS cJ m0 m1 m2 m3 0 kp ln ca lt fi sd hs B T h9_1 z (by omega)) (cwV 0 hts gX7_put_X7_save rfl rfl rfl (by decide +kernel) ⟨Nat.le_of_ble_eq_true rfl, Nat.le_of_ble_eq_true rfl⟩) hK hP hD hS hA [0, 1, 2, 3] rfl (by decide +kernel) rfl rfl rfl 0 7 rfl rfl rfl hl.1 rfl (Nat.le_of_ble_eq_true rfl) dX7_put_36 ⟨Nat.le_of_ble_eq_true rfl, Nat.le_of_ble_eq_true rfl⟩ (fun H locs hP hD hS => ?_)
      refine lv_aload_n hx hb dX7_put_39 rfl (lv_at hl 1 rfl) ?_
      refine lv_iload_n hx hb dX7_put_40 rfl (lv_at hl 2 rfl) ?_
      refine kcallV (As := [.int (nI b)]) (rest := []) (Wn := [mdO m0 m1 m2 m3 0 (nI (savZ z)) kp ln ca lt fi sd hs, arC cI m1 1170 (enc (uA (savB B z) 0 (u2 ((savB B z) 0) 1 b (((savB B z) 0 1 b) + 1)))), arC cI m2 60 T, arC cI m3 8 h9_1]) X (c_X7_puts l D cI cZ cS cJ m0 m1 m2 m3 0 (nI (savZ z)) kp ln ca lt fi sd hs (savB B z) T h9_1 b (by omega)) (cwV 1 hts gX7_put_X7_puts rfl rfl rfl (by decide +kernel) ⟨Nat.le_of_ble_eq_true rfl, Nat.le_of_ble_eq_true rfl⟩) hK hP hD hS hA [0, 1, 2, 3] rfl (by decide +kernel) rfl rfl rfl 0 7 rfl rfl rfl hl.1 rfl (Nat.le_of_ble_eq_true rfl) dX7_put_41 ⟨Nat.le_of_ble_eq_true rfl, Nat.le_of_ble_eq_true rfl⟩ (fun H locs hP hD hS => ?_)
      obtain ⟨hP, hD⟩ := PD_cg hP hD 1 (enc (uA (savB B z) 0 (mended (putS (B 0) b)))) rfl (fun j _ => by rw [sav_0]; exact enc_me _ (putS (B 0) b) j) (wn := List.flatten [mdO m0 m1 m2 m3 0 (nI (savZ z)) kp ln ca lt fi sd hs, arC cI m1 1170 (enc (uA (savB B z) 0 (mended (putS (B 0) b)))), arC cI m2 60 T, arC cI m3 8 h9_1]) rfl
      refine hend (0, (uA (savB B z) 0 (mended (putS (B 0) b))), nI (savZ z), h9_1, (savB B z) 0 1 b + 1) _ _ _ _ _ (by first | exact Res_bad (k2_1 (b1_z c7)) nz1 rfl | (rw [ec]; first | exact Res_bad (k2_2 (b1_t c7) (nz_le c19)) nz2 rfl | exact Res_ok (k2_0 (b1_t c7) (wn3_z c19)) rfl rfl (by rw [sav_0]))) ?_ hP hD hS dX7_put_44
      exact rfl
    · skip
      refine lv_iconst (v := 2) hx hb dX7_put_22 (by decide) ?_
      refine lv_goto (tgt := 27) hx hb dX7_put_23 (by decide) ?_
      refine kcallV (As := [.int 2]) (rest := []) (Wn := [mdO m0 m1 m2 m3 2 (nI z) kp ln ca lt fi sd hs, arC cI m1 1170 (enc B), arC cI m2 60 T, arC cI m3 8 h9_1]) X (c_X7_holds l D cI cZ cS cJ m0 m1 m2 m3 th (nI z) kp ln ca lt fi sd hs B T h9_1 2) (cwV 1 hts gX7_put_X7_holds rfl rfl rfl (by decide +kernel) ⟨Nat.le_of_ble_eq_true rfl, Nat.le_of_ble_eq_true rfl⟩) hK hP hD hS hA [0, 1, 2, 3] rfl (by decide +kernel) rfl rfl rfl 0 7 rfl rfl rfl hl.1 rfl (Nat.le_of_ble_eq_true rfl) dX7_put_27 ⟨Nat.le_of_ble_eq_true rfl, Nat.le_of_ble_eq_true rfl⟩ (fun H locs hP hD hS => ?_)
      refine lv_eqi (y := 0) (by decide) ?_
      refine lv_if_ne (tgt := 35) hx hb dX7_put_30 (by decide) (fun h => absurd h (by decide)) (fun _ => ?_)
      refine lv_iconst (v := 0) hx hb dX7_put_33 (by decide) ?_
      refine hend (2, B, nI z, h9_1, 0) _ _ _ _ _ (by first | exact Res_bad (k2_1 (b1_z c7)) nz1 rfl | (rw [ec]; first | exact Res_bad (k2_2 (b1_t c7) (nz_le c19)) nz2 rfl | exact Res_ok (k2_0 (b1_t c7) (wn3_z c19)) rfl rfl (by rw [sav_0]))) ?_ hP hD hS dX7_put_34
      exact rfl
  · skip
    refine lv_iconst (v := 1) hx hb dX7_put_10 (by decide) ?_
    refine lv_goto (tgt := 27) hx hb dX7_put_11 (by decide) ?_
    refine kcallV (As := [.int 1]) (rest := []) (Wn := [mdO m0 m1 m2 m3 1 (nI z) kp ln ca lt fi sd hs, arC cI m1 1170 (enc B), arC cI m2 60 T, arC cI m3 8 h]) X (c_X7_holds l D cI cZ cS cJ m0 m1 m2 m3 th (nI z) kp ln ca lt fi sd hs B T h 1) (cwV 1 hts gX7_put_X7_holds rfl rfl rfl (by decide +kernel) ⟨Nat.le_of_ble_eq_true rfl, Nat.le_of_ble_eq_true rfl⟩) hK hP hD hS hA [0, 1, 2, 3] rfl (by decide +kernel) rfl rfl rfl 0 7 rfl rfl rfl hl.1 rfl (Nat.le_of_ble_eq_true rfl) dX7_put_27 ⟨Nat.le_of_ble_eq_true rfl, Nat.le_of_ble_eq_true rfl⟩ (fun H locs hP hD hS => ?_)
    refine lv_eqi (y := 0) (by decide) ?_
    refine lv_if_ne (tgt := 35) hx hb dX7_put_30 (by decide) (fun h => absurd h (by decide)) (fun _ => ?_)
    refine lv_iconst (v := 0) hx hb dX7_put_33 (by decide) ?_
    refine hend (1, B, nI z, h, 0) _ _ _ _ _ (by first | exact Res_bad (k2_1 (b1_z c7)) nz1 rfl | (rw [ec]; first | exact Res_bad (k2_2 (b1_t c7) (nz_le c19)) nz2 rfl | exact Res_ok (k2_0 (b1_t c7) (wn3_z c19)) rfl rfl (by rw [sav_0]))) ?_ hP hD hS dX7_put_34
    exact rfl

set_option maxHeartbeats 4000000 in
set_option maxRecDepth 100000 in
theorem c_X7_leak (l : Launch) (D : va_G) (cI cZ cS cJ : ClassId) (m0 : Nat) (m1 : Nat) (m2 : Nat) (m3 : Nat) (th : Int32) (kp : Int32) (ln : Int32) (ca : Int32) (lt : Int32) (fi : Int32) (sd : Int32) (hs : Int64) (B : Nat → Nat → Nat → Int32) (T : Nat → Int32) (h : Nat → Int32) (z : Nat) (x : Int32) (y : Int32) (hz6 : z ≤ 6) (hG : GB (B 0)) (h6 : B 0 6 = ht (B 0)) : CE (U := (Int32) × (Nat → Nat → Nat → Int32) × (Int32) × (Nat → Int32) × (Int32)) l yX7_leak wsX7_leak ({ frames := 3, cells := 0, slots := 0, locals := 67 }) D (tyL cI cZ cS cJ) [.ref m0, .int x, .int y] (List.flatten [mdO m0 m1 m2 m3 th (nI z) kp ln ca lt fi sd hs, arC cI m1 1170 (enc B), arC cI m2 60 T, arC cI m3 8 h]) (fun u => (Res (k2 (isB x) (inR y 0 9)) u.1 (B, nI z) (uA (savB B z) 0 (leaS (B 0) x.toNatClampNeg y), nI (savZ z)) (u.2.1, u.2.2.1) (B 0 2 x.toNatClampNeg) u.2.2.2.2)) (fun u => some (.int u.2.2.2.2)) (fun u => List.flatten [mdO m0 m1 m2 m3 u.1 u.2.2.1 kp ln ca lt fi sd hs, arC cI m1 1170 (enc u.2.1), arC cI m2 60 T, arC cI m3 8 u.2.2.2.1]) 0 0 := by
  refine CE_int (cc := cX7_leak) (maxL := 3) (rt := .int) (by decide) rfl (Nat.le_of_ble_eq_true rfl) (fun _ _ => rfl) ?_
  intro p e s m below meth c A ls Q X hK hP hD hS hA hl hend
  have X : CallFix p m c cX7_leak 3 s ([.ref m0, .int x, .int y] : List Value).toArray wsX7_leak RX7 := X
  obtain ⟨hx, hb, hml, hown, hts⟩ := id X
  have hl : lv_has ls 3 [(0, .ref m0), (1, .int x), (2, .int y)] := hl
  refine lv_aload_n hx hb dX7_leak_0 rfl (lv_at hl 0 rfl) ?_
  refine lv_iload_n hx hb dX7_leak_1 rfl (lv_at hl 1 rfl) ?_
  refine kcallS (As := [.int x]) (rest := [.ref m0]) (Wn := [mdO m0 m1 m2 m3 th (nI z) kp ln ca lt fi sd hs, arC cI m1 1170 (enc B), arC cI m2 60 T, arC cI m3 8 h]) X (c_X7_isBalloon l D cI cZ cS cJ x) (va_cwS 1 hts gX7_leak_X7_isBalloon rfl rfl rfl (by decide +kernel) ⟨Nat.le_of_ble_eq_true rfl, Nat.le_of_ble_eq_true rfl⟩) hK hP hD hS hA [] rfl (by decide +kernel) rfl rfl rfl rfl hl.1 rfl (Nat.le_of_ble_eq_true rfl) dX7_leak_2 ⟨Nat.le_of_ble_eq_true rfl, Nat.le_of_ble_eq_true rfl⟩ (fun H locs hP hD hS => ?_)
  refine lv_if_ne (tgt := 12) hx hb dX7_leak_5 (by decide) (fun c5 => ?_) (fun c5 => ?_)
  · skip
    obtain ⟨b, hb8, rfl⟩ := bal_of (b1_t c5)
    have hP : va_P D vwCl (List.flatten [mdO m0 m1 m2 m3 th (nI z) kp ln ca lt fi sd hs, arC cI m1 1170 (enc B), arC cI m2 60 T, arC cI m3 8 h]) _ := hP
    have hD : va_D A (List.flatten [mdO m0 m1 m2 m3 th (nI z) kp ln ca lt fi sd hs, arC cI m1 1170 (enc B), arC cI m2 60 T, arC cI m3 8 h]) := hD
    have hl : lv_has ls 3 [(0, .ref m0), (1, .int (nI b)), (2, .int y)] := hl
    have ec : (nI b).toNatClampNeg = b := nI_clamp (by omega)
    refine lv_iload_n hx hb dX7_leak_12 rfl (lv_at hl 2 rfl) ?_
    refine lv_iconst (v := 0) hx hb dX7_leak_13 (by decide) ?_
    refine lv_bipush (v := 9) hx hb dX7_leak_14 (by decide) ?_
    refine kcallS (As := [.int y, .int 0, .int 9]) (rest := [.ref m0]) (Wn := [mdO m0 m1 m2 m3 th (nI z) kp ln ca lt fi sd hs, arC cI m1 1170 (enc B), arC cI m2 60 T, arC cI m3 8 h]) X (c_X7_in l D cI cZ cS cJ y 0 9) (va_cwS 3 hts gX7_leak_X7_in rfl rfl rfl (by decide +kernel) ⟨Nat.le_of_ble_eq_true rfl, Nat.le_of_ble_eq_true rfl⟩) hK hP hD hS hA [] rfl (by decide +kernel) rfl rfl rfl rfl hl.1 rfl (Nat.le_of_ble_eq_true rfl) dX7_leak_16 ⟨Nat.le_of_ble_eq_true rfl, Nat.le_of_ble_eq_true rfl⟩ (fun H locs hP hD hS => ?_)
    refine lv_if_ne (tgt := 26) hx hb dX7_leak_19 (by decide) (fun c19 => ?_) (fun c19 => ?_)
    · skip
      refine lv_iconst (v := 0) hx hb dX7_leak_26 (by decide) ?_
      refine kcallV (As := [.int 0]) (rest := []) (Wn := [mdO m0 m1 m2 m3 0 (nI z) kp ln ca lt fi sd hs, arC cI m1 1170 (enc B), arC cI m2 60 T, arC cI m3 8 h]) X (c_X7_holds l D cI cZ cS cJ m0 m1 m2 m3 th (nI z) kp ln ca lt fi sd hs B T h 0) (cwV 1 hts gX7_leak_X7_holds rfl rfl rfl (by decide +kernel) ⟨Nat.le_of_ble_eq_true rfl, Nat.le_of_ble_eq_true rfl⟩) hK hP hD hS hA [0, 1, 2, 3] rfl (by decide +kernel) rfl rfl rfl 0 7 rfl rfl rfl hl.1 rfl (Nat.le_of_ble_eq_true rfl) dX7_leak_27 ⟨Nat.le_of_ble_eq_true rfl, Nat.le_of_ble_eq_true rfl⟩ (fun H locs hP hD hS => ?_)
      refine lv_eqi (y := 1) (by decide) ?_
      refine lv_if_eq (tgt := 49) hx hb dX7_leak_30 (by decide) (fun h => absurd h (by decide)) (fun _ => ?_)
      refine lv_aload_n hx hb dX7_leak_33 rfl (lv_at hl 0 rfl) ?_
      refine lv_bipush (v := 9) hx hb dX7_leak_34 (by decide) ?_
      refine lv_iconst (v := 5) hx hb dX7_leak_36 (by decide) ?_
      refine lv_iload_n hx hb dX7_leak_37 rfl (lv_at hl 1 rfl) ?_
      refine lv_imul hx hb dX7_leak_38 ?_
      refine lv_eqi (y := nI (5 * b)) (pk_mul _ _) ?_
      refine lv_iadd hx hb dX7_leak_39 ?_
      refine lv_eqi (y := nI (9 + (5 * b))) (nI_add _ _) ?_
      refine lv_iconst (v := 2) hx hb dX7_leak_40 (by decide) ?_
      refine lv_iadd hx hb dX7_leak_41 ?_
      refine lv_eqi (y := nI ((9 + (5 * b)) + 2)) (nI_add _ _) ?_
      refine lv_iload_n hx hb dX7_leak_42 rfl (lv_at hl 2 rfl) ?_
      refine kcallV (As := [.int (nI ((9 + (5 * b)) + 2)), .int y]) (rest := []) (Wn := [mdO m0 m1 m2 m3 0 (nI (savZ z)) kp ln ca lt fi sd hs, arC cI m1 1170 (upd (enc (savB B z)) ((9 + (5 * b)) + 2) y), arC cI m2 60 T, arC cI m3 8 h]) X (c_X7_changed l D cI cZ cS cJ m0 m1 m2 m3 0 kp ln ca lt fi sd hs B T h z ((9 + (5 * b)) + 2) y (by omega) (by omega)) (cwV 2 hts gX7_leak_X7_changed rfl rfl rfl (by decide +kernel) ⟨Nat.le_of_ble_eq_true rfl, Nat.le_of_ble_eq_true rfl⟩) hK hP hD hS hA [0, 1, 2, 3] rfl (by decide +kernel) rfl rfl rfl 0 7 rfl rfl rfl hl.1 rfl (Nat.le_of_ble_eq_true rfl) dX7_leak_43 ⟨Nat.le_of_ble_eq_true rfl, Nat.le_of_ble_eq_true rfl⟩ (fun H locs hP hD hS => ?_)
      obtain ⟨hP, hD⟩ := PD_cg hP hD 1 (enc (uA (savB B z) 0 (leaS (B 0) b y))) rfl (fun j _ => congrFun (sav_ub B z (w := 2) hb8 (by decide) y) j) (wn := List.flatten [mdO m0 m1 m2 m3 0 (nI (savZ z)) kp ln ca lt fi sd hs, arC cI m1 1170 (enc (uA (savB B z) 0 (leaS (B 0) b y))), arC cI m2 60 T, arC cI m3 8 h]) rfl
      refine lv_goto (tgt := 50) hx hb dX7_leak_46 (by decide) ?_
      refine hend (0, (uA (savB B z) 0 (leaS (B 0) b y)), nI (savZ z), h, enc B ((9 + (5 * b)) + 2)) _ _ _ _ _ (by first | exact Res_bad (k2_1 (b1_z c5)) nz1 rfl | (rw [ec]; first | exact Res_bad (k2_2 (b1_t c5) (b1_z c19)) nz2 rfl | exact Res_ok (k2_0 (b1_t c5) (b1_t c19)) rfl rfl (enc_b0 B (w := 2) hb8 (by decide)))) ?_ hP hD hS dX7_leak_50
      exact rfl
    · skip
      refine lv_iconst (v := 2) hx hb dX7_leak_22 (by decide) ?_
      refine lv_goto (tgt := 27) hx hb dX7_leak_23 (by decide) ?_
      refine kcallV (As := [.int 2]) (rest := []) (Wn := [mdO m0 m1 m2 m3 2 (nI z) kp ln ca lt fi sd hs, arC cI m1 1170 (enc B), arC cI m2 60 T, arC cI m3 8 h]) X (c_X7_holds l D cI cZ cS cJ m0 m1 m2 m3 th (nI z) kp ln ca lt fi sd hs B T h 2) (cwV 1 hts gX7_leak_X7_holds rfl rfl rfl (by decide +kernel) ⟨Nat.le_of_ble_eq_true rfl, Nat.le_of_ble_eq_true rfl⟩) hK hP hD hS hA [0, 1, 2, 3] rfl (by decide +kernel) rfl rfl rfl 0 7 rfl rfl rfl hl.1 rfl (Nat.le_of_ble_eq_true rfl) dX7_leak_27 ⟨Nat.le_of_ble_eq_true rfl, Nat.le_of_ble_eq_true rfl⟩ (fun H locs hP hD hS => ?_)
      refine lv_eqi (y := 0) (by decide) ?_
      refine lv_if_eq (tgt := 49) hx hb dX7_leak_30 (by decide) (fun _ => ?_) (fun h => absurd (by decide) h)
      refine lv_iconst (v := 0) hx hb dX7_leak_49 (by decide) ?_
      refine hend (2, B, nI z, h, 0) _ _ _ _ _ (by first | exact Res_bad (k2_1 (b1_z c5)) nz1 rfl | (rw [ec]; first | exact Res_bad (k2_2 (b1_t c5) (b1_z c19)) nz2 rfl | exact Res_ok (k2_0 (b1_t c5) (b1_t c19)) rfl rfl (enc_b0 B (w := 2) hb8 (by decide)))) ?_ hP hD hS dX7_leak_50
      exact rfl
  · skip
    refine lv_iconst (v := 1) hx hb dX7_leak_8 (by decide) ?_
    refine lv_goto (tgt := 27) hx hb dX7_leak_9 (by decide) ?_
    refine kcallV (As := [.int 1]) (rest := []) (Wn := [mdO m0 m1 m2 m3 1 (nI z) kp ln ca lt fi sd hs, arC cI m1 1170 (enc B), arC cI m2 60 T, arC cI m3 8 h]) X (c_X7_holds l D cI cZ cS cJ m0 m1 m2 m3 th (nI z) kp ln ca lt fi sd hs B T h 1) (cwV 1 hts gX7_leak_X7_holds rfl rfl rfl (by decide +kernel) ⟨Nat.le_of_ble_eq_true rfl, Nat.le_of_ble_eq_true rfl⟩) hK hP hD hS hA [0, 1, 2, 3] rfl (by decide +kernel) rfl rfl rfl 0 7 rfl rfl rfl hl.1 rfl (Nat.le_of_ble_eq_true rfl) dX7_leak_27 ⟨Nat.le_of_ble_eq_true rfl, Nat.le_of_ble_eq_true rfl⟩ (fun H locs hP hD hS => ?_)
    refine lv_eqi (y := 0) (by decide) ?_
    refine lv_if_eq (tgt := 49) hx hb dX7_leak_30 (by decide) (fun _ => ?_) (fun h => absurd (by decide) h)
    refine lv_iconst (v := 0) hx hb dX7_leak_49 (by decide) ?_
    refine hend (1, B, nI z, h, 0) _ _ _ _ _ (by first | exact Res_bad (k2_1 (b1_z c5)) nz1 rfl | (rw [ec]; first | exact Res_bad (k2_2 (b1_t c5) (b1_z c19)) nz2 rfl | exact Res_ok (k2_0 (b1_t c5) (b1_t c19)) rfl rfl (enc_b0 B (w := 2) hb8 (by decide)))) ?_ hP hD hS dX7_leak_50
    exact rfl

set_option maxHeartbeats 4000000 in
set_option maxRecDepth 100000 in
theorem c_X7_tie (l : Launch) (D : va_G) (cI cZ cS cJ : ClassId) (m0 : Nat) (m1 : Nat) (m2 : Nat) (m3 : Nat) (th : Int32) (kp : Int32) (ln : Int32) (ca : Int32) (lt : Int32) (fi : Int32) (sd : Int32) (hs : Int64) (B : Nat → Nat → Nat → Int32) (T : Nat → Int32) (h : Nat → Int32) (z : Nat) (x : Int32) (y : Int32) (hz6 : z ≤ 6) (hG : GB (B 0)) (h6 : B 0 6 = ht (B 0)) : CE (U := (Int32) × (Nat → Nat → Nat → Int32) × (Int32) × (Nat → Int32) × (Int32)) l yX7_tie wsX7_tie ({ frames := 5, cells := 0, slots := 0, locals := 112 }) D (tyL cI cZ cS cJ) [.ref m0, .int x, .int y] (List.flatten [mdO m0 m1 m2 m3 th (nI z) kp ln ca lt fi sd hs, arC cI m1 1170 (enc B), arC cI m2 60 T, arC cI m3 8 h]) (fun u => (Res (k3 (isR x) (inR y 0 300) (wnt (B 0) x.toNatClampNeg y = 0)) u.1 (B, nI z) (uA (savB B z) 0 (mended (tieS (B 0) x.toNatClampNeg y)), nI (savZ z)) (u.2.1, u.2.2.1) (nI (se (mended (tieS (B 0) x.toNatClampNeg y)) (7 - x.toNatClampNeg) x.toNatClampNeg - ss (mended (tieS (B 0) x.toNatClampNeg y)) x.toNatClampNeg + 1)) u.2.2.2.2)) (fun u => some (.int u.2.2.2.2)) (fun u => List.flatten [mdO m0 m1 m2 m3 u.1 u.2.2.1 kp ln ca lt fi sd hs, arC cI m1 1170 (enc u.2.1), arC cI m2 60 T, arC cI m3 8 u.2.2.2.1]) 0 0 := by
  refine CE_int (cc := cX7_tie) (maxL := 4) (rt := .int) (by decide) rfl (Nat.le_of_ble_eq_true rfl) (fun _ _ => rfl) ?_
  intro p e s m below meth c A ls Q X hK hP hD hS hA hl hend
  have X : CallFix p m c cX7_tie 4 s ([.ref m0, .int x, .int y] : List Value).toArray wsX7_tie RX7 := X
  obtain ⟨hx, hb, hml, hown, hts⟩ := id X
  have hl : lv_has ls 4 [(0, .ref m0), (1, .int x), (2, .int y)] := hl
  have hinX7 : ∀ w ∈ u_ws RX7 TX7 12, w ∈ wsX7_tie := by decide +kernel
  refine lv_iload_n hx hb dX7_tie_0 rfl (lv_at hl 1 rfl) ?_
  refine kcallS (As := [.int x]) (rest := []) (Wn := [mdO m0 m1 m2 m3 th (nI z) kp ln ca lt fi sd hs, arC cI m1 1170 (enc B), arC cI m2 60 T, arC cI m3 8 h]) X (c_X7_isRibbon l D cI cZ cS cJ x) (va_cwS 1 hts gX7_tie_X7_isRibbon rfl rfl rfl (by decide +kernel) ⟨Nat.le_of_ble_eq_true rfl, Nat.le_of_ble_eq_true rfl⟩) hK hP hD hS hA [] rfl (by decide +kernel) rfl rfl rfl rfl hl.1 rfl (Nat.le_of_ble_eq_true rfl) dX7_tie_1 ⟨Nat.le_of_ble_eq_true rfl, Nat.le_of_ble_eq_true rfl⟩ (fun H locs hP hD hS => ?_)
  refine lv_istore_n (lv' := [(3, .int (b1 (¬ x < 0 ∧ ¬ 6 < x))), (0, .ref m0), (1, .int x), (2, .int y)]) hx hb dX7_tie_4 rfl hl (by decide) rfl (fun ls hl => ?_)
  refine lv_aload_n hx hb dX7_tie_5 rfl (lv_at hl 1 rfl) ?_
  refine lv_iload_n hx hb dX7_tie_6 rfl (lv_at hl 0 rfl) ?_
  refine lv_if_ne (tgt := 14) hx hb dX7_tie_7 (by decide) (fun c7 => ?_) (fun c7 => ?_)
  · skip
    obtain ⟨r, hr7, rfl⟩ := rib_of (b1_t c7)
    have hP : va_P D vwCl (List.flatten [mdO m0 m1 m2 m3 th (nI z) kp ln ca lt fi sd hs, arC cI m1 1170 (enc B), arC cI m2 60 T, arC cI m3 8 h]) _ := hP
    have hD : va_D A (List.flatten [mdO m0 m1 m2 m3 th (nI z) kp ln ca lt fi sd hs, arC cI m1 1170 (enc B), arC cI m2 60 T, arC cI m3 8 h]) := hD
    have hl : lv_has ls 4 [(3, .int (b1 (¬ (nI r) < 0 ∧ ¬ 6 < (nI r)))), (0, .ref m0), (1, .int (nI r)), (2, .int y)] := hl
    have ec : (nI r).toNatClampNeg = r := nI_clamp (by omega)
    refine lv_iload_n hx hb dX7_tie_14 rfl (lv_at hl 3 rfl) ?_
    refine lv_iconst (v := 0) hx hb dX7_tie_15 (by decide) ?_
    refine lv_sipush (v := 300) hx hb dX7_tie_16 (by decide) ?_
    refine kcallS (As := [.int y, .int 0, .int 300]) (rest := [.ref m0]) (Wn := [mdO m0 m1 m2 m3 th (nI z) kp ln ca lt fi sd hs, arC cI m1 1170 (enc B), arC cI m2 60 T, arC cI m3 8 h]) X (c_X7_in l D cI cZ cS cJ y 0 300) (va_cwS 3 hts gX7_tie_X7_in rfl rfl rfl (by decide +kernel) ⟨Nat.le_of_ble_eq_true rfl, Nat.le_of_ble_eq_true rfl⟩) hK hP hD hS hA [] rfl (by decide +kernel) rfl rfl rfl rfl hl.1 rfl (Nat.le_of_ble_eq_true rfl) dX7_tie_19 ⟨Nat.le_of_ble_eq_true rfl, Nat.le_of_ble_eq_true rfl⟩ (fun H locs hP hD hS => ?_)
    refine lv_if_ne (tgt := 29) hx hb dX7_tie_22 (by decide) (fun c22 => ?_) (fun c22 => ?_)
    · skip
      refine lv_aload_n hx hb dX7_tie_29 rfl (lv_at hl 1 rfl) ?_
      refine lv_iload_n hx hb dX7_tie_30 rfl (lv_at hl 2 rfl) ?_
      refine lv_iload_n hx hb dX7_tie_31 rfl (lv_at hl 3 rfl) ?_
      refine kcallVE (As := [.int (nI r), .int y]) (rest := [.ref m0]) (Wn := fun u => [mdO m0 m1 m2 m3 th (nI z) kp ln ca lt fi sd hs, arC cI m1 1170 (enc B), arC cI m2 60 T, arC cI m3 8 u]) X (c_X7_noTie l D cI cZ cS cJ m0 m1 m2 m3 th (nI z) kp ln ca lt fi sd hs B T h r y (by omega) (inR_int (b1_t c22)) hG h6) (cwV 2 hts gX7_tie_X7_noTie rfl rfl rfl (by decide +kernel) ⟨Nat.le_of_ble_eq_true rfl, Nat.le_of_ble_eq_true rfl⟩) hK hP hD hS hA [0, 1, 2, 3] rfl (by decide +kernel) (fun _ => rfl) (fun _ => rfl) (fun _ => rfl) 0 7 rfl rfl rfl hl.1 rfl (Nat.le_of_ble_eq_true rfl) dX7_tie_32 ⟨Nat.le_of_ble_eq_true rfl, Nat.le_of_ble_eq_true rfl⟩ (fun h9_1 H locs hu hP hD hS => ?_)
      have hP : va_P D vwCl (List.flatten [mdO m0 m1 m2 m3 th (nI z) kp ln ca lt fi sd hs, arC cI m1 1170 (enc B), arC cI m2 60 T, arC cI m3 8 h9_1]) _ := hP
      have hD : va_D A (List.flatten [mdO m0 m1 m2 m3 th (nI z) kp ln ca lt fi sd hs, arC cI m1 1170 (enc B), arC cI m2 60 T, arC cI m3 8 h9_1]) := hD
      refine lv_if_le (tgt := 42) hx hb dX7_tie_35 (by decide) (fun c35 => ?_) (fun c35 => ?_)
      · skip
        refine lv_iconst (v := 0) hx hb dX7_tie_42 (by decide) ?_
        refine kcallV (As := [.int 0]) (rest := []) (Wn := [mdO m0 m1 m2 m3 0 (nI z) kp ln ca lt fi sd hs, arC cI m1 1170 (enc B), arC cI m2 60 T, arC cI m3 8 h9_1]) X (c_X7_holds l D cI cZ cS cJ m0 m1 m2 m3 th (nI z) kp ln ca lt fi sd hs B T h9_1 0) (cwV 1 hts gX7_tie_X7_holds rfl rfl rfl (by decide +kernel) ⟨Nat.le_of_ble_eq_true rfl, Nat.le_of_ble_eq_true rfl⟩) hK hP hD hS hA [0, 1, 2, 3] rfl (by decide +kernel) rfl rfl rfl 0 7 rfl rfl rfl hl.1 rfl (Nat.le_of_ble_eq_true rfl) dX7_tie_43 ⟨Nat.le_of_ble_eq_true rfl, Nat.le_of_ble_eq_true rfl⟩ (fun H locs hP hD hS => ?_)
        refine lv_eqi (y := 1) (by decide) ?_
        refine lv_if_ne (tgt := 51) hx hb dX7_tie_46 (by decide) (fun _ => ?_) (fun h => absurd h (by decide))
        refine lv_aload_n hx hb dX7_tie_51 rfl (lv_at hl 1 rfl) ?_
        refine kcallV (As := []) (rest := []) (Wn := [mdO m0 m1 m2 m3 0 (nI (savZ z)) kp ln ca lt fi sd hs, arC cI m1 1170 (enc (savB B z)), arC cI m2 60 T, arC cI m3 8 h9_1]) X (c_X7_save l D cI cZ cS cJ m0 m1 m2 m3 0 kp ln ca lt fi sd hs B T h9_1 z (by omega)) (cwV 0 hts gX7_tie_X7_save rfl rfl rfl (by decide +kernel) ⟨Nat.le_of_ble_eq_true rfl, Nat.le_of_ble_eq_true rfl⟩) hK hP hD hS hA [0, 1, 2, 3] rfl (by decide +kernel) rfl rfl rfl 0 7 rfl rfl rfl hl.1 rfl (Nat.le_of_ble_eq_true rfl) dX7_tie_52 ⟨Nat.le_of_ble_eq_true rfl, Nat.le_of_ble_eq_true rfl⟩ (fun H locs hP hD hS => ?_)
        refine lv_aload_n hx hb dX7_tie_55 rfl (lv_at hl 1 rfl) ?_
        refine va_get (D := D) (ci := 7) (v := .ref m1) (C := RX7) (T := TX7) (N := 12) hx hb hts hinX7 hown hK hP 0 rfl rfl 1 (by decide) (hts (.fieldLink RX7 7 "RibbonBalloonsModel" "s" "[I") (by decide +kernel)) (fun _ h9 => h9) rfl dX7_tie_56 ?_
        refine lv_bipush (v := 49) hx hb dX7_tie_59 (by decide) ?_
        refine lv_iconst (v := 3) hx hb dX7_tie_61 (by decide) ?_
        refine lv_iload_n hx hb dX7_tie_62 rfl (lv_at hl 2 rfl) ?_
        refine lv_imul hx hb dX7_tie_63 ?_
        refine lv_eqi (y := nI (3 * r)) (pk_mul _ _) ?_
        refine lv_iadd hx hb dX7_tie_64 ?_
        refine lv_eqi (y := nI (49 + (3 * r))) (nI_add _ _) ?_
        refine lv_iconst (v := 1) hx hb dX7_tie_65 (by decide) ?_
        refine r_iast hx hb hK hP hD hS 1 0 (49 + (3 * r)) (f := enc (savB B z)) (x := 1) (wn := List.flatten [mdO m0 m1 m2 m3 0 (nI (savZ z)) kp ln ca lt fi sd hs, arC cI m1 1170 (upd (enc (savB B z)) (49 + (3 * r)) 1), arC cI m2 60 T, arC cI m3 8 h9_1]) rfl rfl (by omega) (by omega) rfl dX7_tie_66 (fun H locs hP hD hS => ?_)
        obtain ⟨hP, hD⟩ := PD_cg hP hD 1 (enc (uA (savB B z) 0 (u2 (B 0) 3 r 1))) rfl (fun j _ => congrFun (sav_uq B z (w := 0) hr7 (by decide) 1) j) (wn := List.flatten [mdO m0 m1 m2 m3 0 (nI (savZ z)) kp ln ca lt fi sd hs, arC cI m1 1170 (enc (uA (savB B z) 0 (u2 (B 0) 3 r 1))), arC cI m2 60 T, arC cI m3 8 h9_1]) rfl
        refine lv_aload_n hx hb dX7_tie_67 rfl (lv_at hl 1 rfl) ?_
        refine va_get (D := D) (ci := 7) (v := .ref m1) (C := RX7) (T := TX7) (N := 12) hx hb hts hinX7 hown hK hP 0 rfl rfl 1 (by decide) (hts (.fieldLink RX7 7 "RibbonBalloonsModel" "s" "[I") (by decide +kernel)) (fun _ h9 => h9) rfl dX7_tie_68 ?_
        refine lv_bipush (v := 49) hx hb dX7_tie_71 (by decide) ?_
        refine lv_iconst (v := 3) hx hb dX7_tie_73 (by decide) ?_
        refine lv_iload_n hx hb dX7_tie_74 rfl (lv_at hl 2 rfl) ?_
        refine lv_imul hx hb dX7_tie_75 ?_
        refine lv_eqi (y := nI (3 * r)) (pk_mul _ _) ?_
        refine lv_iadd hx hb dX7_tie_76 ?_
        refine lv_eqi (y := nI (49 + (3 * r))) (nI_add _ _) ?_
        refine lv_iconst (v := 1) hx hb dX7_tie_77 (by decide) ?_
        refine lv_iadd hx hb dX7_tie_78 ?_
        refine lv_eqi (y := nI ((49 + (3 * r)) + 1)) (nI_add _ _) ?_
        refine lv_iload_n hx hb dX7_tie_79 rfl (lv_at hl 3 rfl) ?_
        refine r_iast hx hb hK hP hD hS 1 0 ((49 + (3 * r)) + 1) (f := enc (uA (savB B z) 0 (u2 (B 0) 3 r 1))) (x := y) (wn := List.flatten [mdO m0 m1 m2 m3 0 (nI (savZ z)) kp ln ca lt fi sd hs, arC cI m1 1170 (upd (enc (uA (savB B z) 0 (u2 (B 0) 3 r 1))) ((49 + (3 * r)) + 1) y), arC cI m2 60 T, arC cI m3 8 h9_1]) rfl rfl (by omega) (by omega) rfl dX7_tie_80 (fun H locs hP hD hS => ?_)
        obtain ⟨hP, hD⟩ := PD_cg hP hD 1 (enc (uA (savB B z) 0 (mended (tieS (B 0) r y)))) rfl (fun j _ => (congrFun (enc_uq0 (savB B z) (u2 (B 0) 3 r 1) (w := 1) hr7 (by decide) y) j).trans (enc_me _ (tieS (B 0) r y) j)) (wn := List.flatten [mdO m0 m1 m2 m3 0 (nI (savZ z)) kp ln ca lt fi sd hs, arC cI m1 1170 (enc (uA (savB B z) 0 (mended (tieS (B 0) r y)))), arC cI m2 60 T, arC cI m3 8 h9_1]) rfl
        refine lv_aload_n hx hb dX7_tie_81 rfl (lv_at hl 1 rfl) ?_
        refine lv_iload_n hx hb dX7_tie_82 rfl (lv_at hl 2 rfl) ?_
        refine kcallV (As := [.int (nI r)]) (rest := []) (Wn := [mdO m0 m1 m2 m3 0 (nI (savZ z)) kp ln ca lt fi sd hs, arC cI m1 1170 (enc (uA (savB B z) 0 (mended (tieS (B 0) r y)))), arC cI m2 60 T, arC cI m3 8 h9_1]) X (c_X7_stringOf l D cI cZ cS cJ m0 m1 m2 m3 0 (nI (savZ z)) kp ln ca lt fi sd hs (uA (savB B z) 0 (mended (tieS (B 0) r y))) T h9_1 r (by omega) (by rw [uA_s]; exact tie01 (GB_T hG))) (cwV 1 hts gX7_tie_X7_stringOf rfl rfl rfl (by decide +kernel) ⟨Nat.le_of_ble_eq_true rfl, Nat.le_of_ble_eq_true rfl⟩) hK hP hD hS hA [0, 1, 2, 3] rfl (by decide +kernel) rfl rfl rfl 0 7 rfl rfl rfl hl.1 rfl (Nat.le_of_ble_eq_true rfl) dX7_tie_83 ⟨Nat.le_of_ble_eq_true rfl, Nat.le_of_ble_eq_true rfl⟩ (fun H locs hP hD hS => ?_)
        refine hend (0, (uA (savB B z) 0 (mended (tieS (B 0) r y))), nI (savZ z), h9_1, nI (se ((uA (savB B z) 0 (mended (tieS (B 0) r y))) 0) (7 - r) r - ss ((uA (savB B z) 0 (mended (tieS (B 0) r y))) 0) r + 1)) _ _ _ _ _ (by first | exact Res_bad (k3_1 (b1_z c7)) nz1 rfl | (rw [ec]; first | exact Res_bad (k3_2 (b1_t c7) (b1_z c22)) nz2 rfl | exact Res_bad (k3_3 (b1_t c7) (b1_t c22) (nz_le c35)) nz3 rfl | exact Res_ok (k3_0 (b1_t c7) (b1_t c22) (wnt_z c35)) rfl rfl (by rw [uA_s]))) ?_ hP hD hS dX7_tie_86
        exact rfl
      · skip
        refine lv_iconst (v := 3) hx hb dX7_tie_38 (by decide) ?_
        refine lv_goto (tgt := 43) hx hb dX7_tie_39 (by decide) ?_
        refine kcallV (As := [.int 3]) (rest := []) (Wn := [mdO m0 m1 m2 m3 3 (nI z) kp ln ca lt fi sd hs, arC cI m1 1170 (enc B), arC cI m2 60 T, arC cI m3 8 h9_1]) X (c_X7_holds l D cI cZ cS cJ m0 m1 m2 m3 th (nI z) kp ln ca lt fi sd hs B T h9_1 3) (cwV 1 hts gX7_tie_X7_holds rfl rfl rfl (by decide +kernel) ⟨Nat.le_of_ble_eq_true rfl, Nat.le_of_ble_eq_true rfl⟩) hK hP hD hS hA [0, 1, 2, 3] rfl (by decide +kernel) rfl rfl rfl 0 7 rfl rfl rfl hl.1 rfl (Nat.le_of_ble_eq_true rfl) dX7_tie_43 ⟨Nat.le_of_ble_eq_true rfl, Nat.le_of_ble_eq_true rfl⟩ (fun H locs hP hD hS => ?_)
        refine lv_eqi (y := 0) (by decide) ?_
        refine lv_if_ne (tgt := 51) hx hb dX7_tie_46 (by decide) (fun h => absurd h (by decide)) (fun _ => ?_)
        refine lv_iconst (v := 0) hx hb dX7_tie_49 (by decide) ?_
        refine hend (3, B, nI z, h9_1, 0) _ _ _ _ _ (by first | exact Res_bad (k3_1 (b1_z c7)) nz1 rfl | (rw [ec]; first | exact Res_bad (k3_2 (b1_t c7) (b1_z c22)) nz2 rfl | exact Res_bad (k3_3 (b1_t c7) (b1_t c22) (nz_le c35)) nz3 rfl | exact Res_ok (k3_0 (b1_t c7) (b1_t c22) (wnt_z c35)) rfl rfl (by rw [uA_s]))) ?_ hP hD hS dX7_tie_50
        exact rfl
    · skip
      refine lv_iconst (v := 2) hx hb dX7_tie_25 (by decide) ?_
      refine lv_goto (tgt := 43) hx hb dX7_tie_26 (by decide) ?_
      refine kcallV (As := [.int 2]) (rest := []) (Wn := [mdO m0 m1 m2 m3 2 (nI z) kp ln ca lt fi sd hs, arC cI m1 1170 (enc B), arC cI m2 60 T, arC cI m3 8 h]) X (c_X7_holds l D cI cZ cS cJ m0 m1 m2 m3 th (nI z) kp ln ca lt fi sd hs B T h 2) (cwV 1 hts gX7_tie_X7_holds rfl rfl rfl (by decide +kernel) ⟨Nat.le_of_ble_eq_true rfl, Nat.le_of_ble_eq_true rfl⟩) hK hP hD hS hA [0, 1, 2, 3] rfl (by decide +kernel) rfl rfl rfl 0 7 rfl rfl rfl hl.1 rfl (Nat.le_of_ble_eq_true rfl) dX7_tie_43 ⟨Nat.le_of_ble_eq_true rfl, Nat.le_of_ble_eq_true rfl⟩ (fun H locs hP hD hS => ?_)
      refine lv_eqi (y := 0) (by decide) ?_
      refine lv_if_ne (tgt := 51) hx hb dX7_tie_46 (by decide) (fun h => absurd h (by decide)) (fun _ => ?_)
      refine lv_iconst (v := 0) hx hb dX7_tie_49 (by decide) ?_
      refine hend (2, B, nI z, h, 0) _ _ _ _ _ (by first | exact Res_bad (k3_1 (b1_z c7)) nz1 rfl | (rw [ec]; first | exact Res_bad (k3_2 (b1_t c7) (b1_z c22)) nz2 rfl | exact Res_bad (k3_3 (b1_t c7) (b1_t c22) (nz_le c35)) nz3 rfl | exact Res_ok (k3_0 (b1_t c7) (b1_t c22) (wnt_z c35)) rfl rfl (by rw [uA_s]))) ?_ hP hD hS dX7_tie_50
      exact rfl
  · skip
    refine lv_iconst (v := 1) hx hb dX7_tie_10 (by decide) ?_
    refine lv_goto (tgt := 43) hx hb dX7_tie_11 (by decide) ?_
    refine kcallV (As := [.int 1]) (rest := []) (Wn := [mdO m0 m1 m2 m3 1 (nI z) kp ln ca lt fi sd hs, arC cI m1 1170 (enc B), arC cI m2 60 T, arC cI m3 8 h]) X (c_X7_holds l D cI cZ cS cJ m0 m1 m2 m3 th (nI z) kp ln ca lt fi sd hs B T h 1) (cwV 1 hts gX7_tie_X7_holds rfl rfl rfl (by decide +kernel) ⟨Nat.le_of_ble_eq_true rfl, Nat.le_of_ble_eq_true rfl⟩) hK hP hD hS hA [0, 1, 2, 3] rfl (by decide +kernel) rfl rfl rfl 0 7 rfl rfl rfl hl.1 rfl (Nat.le_of_ble_eq_true rfl) dX7_tie_43 ⟨Nat.le_of_ble_eq_true rfl, Nat.le_of_ble_eq_true rfl⟩ (fun H locs hP hD hS => ?_)
    refine lv_eqi (y := 0) (by decide) ?_
    refine lv_if_ne (tgt := 51) hx hb dX7_tie_46 (by decide) (fun h => absurd h (by decide)) (fun _ => ?_)
    refine lv_iconst (v := 0) hx hb dX7_tie_49 (by decide) ?_
    refine hend (1, B, nI z, h, 0) _ _ _ _ _ (by first | exact Res_bad (k3_1 (b1_z c7)) nz1 rfl | (rw [ec]; first | exact Res_bad (k3_2 (b1_t c7) (b1_z c22)) nz2 rfl | exact Res_bad (k3_3 (b1_t c7) (b1_t c22) (nz_le c35)) nz3 rfl | exact Res_ok (k3_0 (b1_t c7) (b1_t c22) (wnt_z c35)) rfl rfl (by rw [uA_s]))) ?_ hP hD hS dX7_tie_50
    exact rfl

set_option maxHeartbeats 4000000 in
set_option maxRecDepth 100000 in
theorem c_X7_cut (l : Launch) (D : va_G) (cI cZ cS cJ : ClassId) (m0 : Nat) (m1 : Nat) (m2 : Nat) (m3 : Nat) (th : Int32) (kp : Int32) (ln : Int32) (ca : Int32) (lt : Int32) (fi : Int32) (sd : Int32) (hs : Int64) (B : Nat → Nat → Nat → Int32) (T : Nat → Int32) (h : Nat → Int32) (z : Nat) (x : Int32) (hz6 : z ≤ 6) (hG : GB (B 0)) (h6 : B 0 6 = ht (B 0)) : CE (U := (Int32) × (Nat → Nat → Nat → Int32) × (Int32) × (Nat → Int32) × (Int32)) l yX7_cut wsX7_cut ({ frames := 6, cells := 0, slots := 0, locals := 135 }) D (tyL cI cZ cS cJ) [.ref m0, .int x] (List.flatten [mdO m0 m1 m2 m3 th (nI z) kp ln ca lt fi sd hs, arC cI m1 1170 (enc B), arC cI m2 60 T, arC cI m3 8 h]) (fun u => (Res (k2 (isR x) (wn5 (B 0) x.toNatClampNeg = 0)) u.1 (B, nI z) (uA (savB B z) 0 (mended (cutS (B 0) x.toNatClampNeg)), nI (savZ z)) (u.2.1, u.2.2.1) (hsm (mended (cutS (B 0) x.toNatClampNeg)) - hsm (B 0)) u.2.2.2.2)) (fun u => some (.int u.2.2.2.2)) (fun u => List.flatten [mdO m0 m1 m2 m3 u.1 u.2.2.1 kp ln ca lt fi sd hs, arC cI m1 1170 (enc u.2.1), arC cI m2 60 T, arC cI m3 8 u.2.2.2.1]) 0 0 := by
  refine CE_int (cc := cX7_cut) (maxL := 3) (rt := .int) (by decide) rfl (Nat.le_of_ble_eq_true rfl) (fun _ _ => rfl) ?_
  intro p e s m below meth c A ls Q X hK hP hD hS hA hl hend
  have X : CallFix p m c cX7_cut 3 s ([.ref m0, .int x] : List Value).toArray wsX7_cut RX7 := X
  obtain ⟨hx, hb, hml, hown, hts⟩ := id X
  have hl : lv_has ls 3 [(0, .ref m0), (1, .int x)] := hl
  refine lv_iload_n hx hb dX7_cut_0 rfl (lv_at hl 1 rfl) ?_
  refine kcallS (As := [.int x]) (rest := []) (Wn := [mdO m0 m1 m2 m3 th (nI z) kp ln ca lt fi sd hs, arC cI m1 1170 (enc B), arC cI m2 60 T, arC cI m3 8 h]) X (c_X7_isRibbon l D cI cZ cS cJ x) (va_cwS 1 hts gX7_cut_X7_isRibbon rfl rfl rfl (by decide +kernel) ⟨Nat.le_of_ble_eq_true rfl, Nat.le_of_ble_eq_true rfl⟩) hK hP hD hS hA [] rfl (by decide +kernel) rfl rfl rfl rfl hl.1 rfl (Nat.le_of_ble_eq_true rfl) dX7_cut_1 ⟨Nat.le_of_ble_eq_true rfl, Nat.le_of_ble_eq_true rfl⟩ (fun H locs hP hD hS => ?_)
  refine lv_istore_n (lv' := [(2, .int (b1 (¬ x < 0 ∧ ¬ 6 < x))), (0, .ref m0), (1, .int x)]) hx hb dX7_cut_4 rfl hl (by decide) rfl (fun ls hl => ?_)
  refine lv_aload_n hx hb dX7_cut_5 rfl (lv_at hl 1 rfl) ?_
  refine lv_iload_n hx hb dX7_cut_6 rfl (lv_at hl 0 rfl) ?_
  refine lv_if_ne (tgt := 14) hx hb dX7_cut_7 (by decide) (fun c7 => ?_) (fun c7 => ?_)
  · skip
    obtain ⟨r, hr7, rfl⟩ := rib_of (b1_t c7)
    have hP : va_P D vwCl (List.flatten [mdO m0 m1 m2 m3 th (nI z) kp ln ca lt fi sd hs, arC cI m1 1170 (enc B), arC cI m2 60 T, arC cI m3 8 h]) _ := hP
    have hD : va_D A (List.flatten [mdO m0 m1 m2 m3 th (nI z) kp ln ca lt fi sd hs, arC cI m1 1170 (enc B), arC cI m2 60 T, arC cI m3 8 h]) := hD
    have hl : lv_has ls 3 [(2, .int (b1 (¬ (nI r) < 0 ∧ ¬ 6 < (nI r)))), (0, .ref m0), (1, .int (nI r))] := hl
    have ec : (nI r).toNatClampNeg = r := nI_clamp (by omega)
    refine lv_aload_n hx hb dX7_cut_14 rfl (lv_at hl 1 rfl) ?_
    refine lv_iload_n hx hb dX7_cut_15 rfl (lv_at hl 2 rfl) ?_
    refine kcallV (As := [.int (nI r)]) (rest := [.ref m0]) (Wn := [mdO m0 m1 m2 m3 th (nI z) kp ln ca lt fi sd hs, arC cI m1 1170 (enc B), arC cI m2 60 T, arC cI m3 8 h]) X (c_X7_noCut l D cI cZ cS cJ m0 m1 m2 m3 th (nI z) kp ln ca lt fi sd hs B T h r (by omega) (GB_T hG)) (cwV 1 hts gX7_cut_X7_noCut rfl rfl rfl (by decide +kernel) ⟨Nat.le_of_ble_eq_true rfl, Nat.le_of_ble_eq_true rfl⟩) hK hP hD hS hA [0, 1, 2, 3] rfl (by decide +kernel) rfl rfl rfl 0 7 rfl rfl rfl hl.1 rfl (Nat.le_of_ble_eq_true rfl) dX7_cut_16 ⟨Nat.le_of_ble_eq_true rfl, Nat.le_of_ble_eq_true rfl⟩ (fun H locs hP hD hS => ?_)
    refine lv_if_le (tgt := 26) hx hb dX7_cut_19 (by decide) (fun c19 => ?_) (fun c19 => ?_)
    · skip
      refine lv_iconst (v := 0) hx hb dX7_cut_26 (by decide) ?_
      refine kcallV (As := [.int 0]) (rest := []) (Wn := [mdO m0 m1 m2 m3 0 (nI z) kp ln ca lt fi sd hs, arC cI m1 1170 (enc B), arC cI m2 60 T, arC cI m3 8 h]) X (c_X7_holds l D cI cZ cS cJ m0 m1 m2 m3 th (nI z) kp ln ca lt fi sd hs B T h 0) (cwV 1 hts gX7_cut_X7_holds rfl rfl rfl (by decide +kernel) ⟨Nat.le_of_ble_eq_true rfl, Nat.le_of_ble_eq_true rfl⟩) hK hP hD hS hA [0, 1, 2, 3] rfl (by decide +kernel) rfl rfl rfl 0 7 rfl rfl rfl hl.1 rfl (Nat.le_of_ble_eq_true rfl) dX7_cut_27 ⟨Nat.le_of_ble_eq_true rfl, Nat.le_of_ble_eq_true rfl⟩ (fun H locs hP hD hS => ?_)
      refine lv_eqi (y := 1) (by decide) ?_
      refine lv_if_ne (tgt := 35) hx hb dX7_cut_30 (by decide) (fun _ => ?_) (fun h => absurd h (by decide))
      refine lv_aload_n hx hb dX7_cut_35 rfl (lv_at hl 1 rfl) ?_
      refine kcallV (As := []) (rest := []) (Wn := [mdO m0 m1 m2 m3 0 (nI (savZ z)) kp ln ca lt fi sd hs, arC cI m1 1170 (enc (savB B z)), arC cI m2 60 T, arC cI m3 8 h]) X (c_X7_save l D cI cZ cS cJ m0 m1 m2 m3 0 kp ln ca lt fi sd hs B T h z (by omega)) (cwV 0 hts gX7_cut_X7_save rfl rfl rfl (by decide +kernel) ⟨Nat.le_of_ble_eq_true rfl, Nat.le_of_ble_eq_true rfl⟩) hK hP hD hS hA [0, 1, 2, 3] rfl (by decide +kernel) rfl rfl rfl 0 7 rfl rfl rfl hl.1 rfl (Nat.le_of_ble_eq_true rfl) dX7_cut_36 ⟨Nat.le_of_ble_eq_true rfl, Nat.le_of_ble_eq_true rfl⟩ (fun H locs hP hD hS => ?_)
      refine lv_aload_n hx hb dX7_cut_39 rfl (lv_at hl 1 rfl) ?_
      refine lv_iload_n hx hb dX7_cut_40 rfl (lv_at hl 2 rfl) ?_
      refine kcallVE (As := [.int (nI r)]) (rest := []) (Wn := fun u => [mdO m0 m1 m2 m3 0 (nI (savZ z)) kp ln ca lt fi sd hs, arC cI m1 1170 (enc (uA (savB B z) 0 (mended (cutS ((savB B z) 0) r)))), arC cI m2 60 T, arC cI m3 8 u]) X (c_X7_cuts l D cI cZ cS cJ m0 m1 m2 m3 0 (nI (savZ z)) kp ln ca lt fi sd hs (savB B z) T h r (by omega) (by rw [sav_0]; exact GB_T hG)) (cwV 1 hts gX7_cut_X7_cuts rfl rfl rfl (by decide +kernel) ⟨Nat.le_of_ble_eq_true rfl, Nat.le_of_ble_eq_true rfl⟩) hK hP hD hS hA [0, 1, 2, 3] rfl (by decide +kernel) (fun _ => rfl) (fun _ => rfl) (fun _ => rfl) 0 7 rfl rfl rfl hl.1 rfl (Nat.le_of_ble_eq_true rfl) dX7_cut_41 ⟨Nat.le_of_ble_eq_true rfl, Nat.le_of_ble_eq_true rfl⟩ (fun h9_1 H locs hu hP hD hS => ?_)
      have hP : va_P D vwCl (List.flatten [mdO m0 m1 m2 m3 0 (nI (savZ z)) kp ln ca lt fi sd hs, arC cI m1 1170 (enc (uA (savB B z) 0 (mended (cutS ((savB B z) 0) r)))), arC cI m2 60 T, arC cI m3 8 h9_1]) _ := hP
      have hD : va_D A (List.flatten [mdO m0 m1 m2 m3 0 (nI (savZ z)) kp ln ca lt fi sd hs, arC cI m1 1170 (enc (uA (savB B z) 0 (mended (cutS ((savB B z) 0) r)))), arC cI m2 60 T, arC cI m3 8 h9_1]) := hD
      obtain ⟨hP, hD⟩ := PD_cg hP hD 1 (enc (uA (savB B z) 0 (mended (cutS (B 0) r)))) rfl (fun j _ => by rw [sav_0]) (wn := List.flatten [mdO m0 m1 m2 m3 0 (nI (savZ z)) kp ln ca lt fi sd hs, arC cI m1 1170 (enc (uA (savB B z) 0 (mended (cutS (B 0) r)))), arC cI m2 60 T, arC cI m3 8 h9_1]) rfl
      refine hend (0, (uA (savB B z) 0 (mended (cutS (B 0) r))), nI (savZ z), h9_1, hsm (mended (cutS ((savB B z) 0) r)) - (hsm ((savB B z) 0))) _ _ _ _ _ (by first | exact Res_bad (k2_1 (b1_z c7)) nz1 rfl | (rw [ec]; first | exact Res_bad (k2_2 (b1_t c7) (nz_le c19)) nz2 rfl | exact Res_ok (k2_0 (b1_t c7) (wn5_z c19)) rfl rfl (by rw [sav_0]))) ?_ hP hD hS dX7_cut_44
      exact rfl
    · skip
      refine lv_iconst (v := 2) hx hb dX7_cut_22 (by decide) ?_
      refine lv_goto (tgt := 27) hx hb dX7_cut_23 (by decide) ?_
      refine kcallV (As := [.int 2]) (rest := []) (Wn := [mdO m0 m1 m2 m3 2 (nI z) kp ln ca lt fi sd hs, arC cI m1 1170 (enc B), arC cI m2 60 T, arC cI m3 8 h]) X (c_X7_holds l D cI cZ cS cJ m0 m1 m2 m3 th (nI z) kp ln ca lt fi sd hs B T h 2) (cwV 1 hts gX7_cut_X7_holds rfl rfl rfl (by decide +kernel) ⟨Nat.le_of_ble_eq_true rfl, Nat.le_of_ble_eq_true rfl⟩) hK hP hD hS hA [0, 1, 2, 3] rfl (by decide +kernel) rfl rfl rfl 0 7 rfl rfl rfl hl.1 rfl (Nat.le_of_ble_eq_true rfl) dX7_cut_27 ⟨Nat.le_of_ble_eq_true rfl, Nat.le_of_ble_eq_true rfl⟩ (fun H locs hP hD hS => ?_)
      refine lv_eqi (y := 0) (by decide) ?_
      refine lv_if_ne (tgt := 35) hx hb dX7_cut_30 (by decide) (fun h => absurd h (by decide)) (fun _ => ?_)
      refine lv_iconst (v := 0) hx hb dX7_cut_33 (by decide) ?_
      refine hend (2, B, nI z, h, 0) _ _ _ _ _ (by first | exact Res_bad (k2_1 (b1_z c7)) nz1 rfl | (rw [ec]; first | exact Res_bad (k2_2 (b1_t c7) (nz_le c19)) nz2 rfl | exact Res_ok (k2_0 (b1_t c7) (wn5_z c19)) rfl rfl (by rw [sav_0]))) ?_ hP hD hS dX7_cut_34
      exact rfl
  · skip
    refine lv_iconst (v := 1) hx hb dX7_cut_10 (by decide) ?_
    refine lv_goto (tgt := 27) hx hb dX7_cut_11 (by decide) ?_
    refine kcallV (As := [.int 1]) (rest := []) (Wn := [mdO m0 m1 m2 m3 1 (nI z) kp ln ca lt fi sd hs, arC cI m1 1170 (enc B), arC cI m2 60 T, arC cI m3 8 h]) X (c_X7_holds l D cI cZ cS cJ m0 m1 m2 m3 th (nI z) kp ln ca lt fi sd hs B T h 1) (cwV 1 hts gX7_cut_X7_holds rfl rfl rfl (by decide +kernel) ⟨Nat.le_of_ble_eq_true rfl, Nat.le_of_ble_eq_true rfl⟩) hK hP hD hS hA [0, 1, 2, 3] rfl (by decide +kernel) rfl rfl rfl 0 7 rfl rfl rfl hl.1 rfl (Nat.le_of_ble_eq_true rfl) dX7_cut_27 ⟨Nat.le_of_ble_eq_true rfl, Nat.le_of_ble_eq_true rfl⟩ (fun H locs hP hD hS => ?_)
    refine lv_eqi (y := 0) (by decide) ?_
    refine lv_if_ne (tgt := 35) hx hb dX7_cut_30 (by decide) (fun h => absurd h (by decide)) (fun _ => ?_)
    refine lv_iconst (v := 0) hx hb dX7_cut_33 (by decide) ?_
    refine hend (1, B, nI z, h, 0) _ _ _ _ _ (by first | exact Res_bad (k2_1 (b1_z c7)) nz1 rfl | (rw [ec]; first | exact Res_bad (k2_2 (b1_t c7) (nz_le c19)) nz2 rfl | exact Res_ok (k2_0 (b1_t c7) (wn5_z c19)) rfl rfl (by rw [sav_0]))) ?_ hP hD hS dX7_cut_34
    exact rfl

set_option maxHeartbeats 4000000 in
set_option maxRecDepth 100000 in
theorem c_X7_bear (l : Launch) (D : va_G) (cI cZ cS cJ : ClassId) (m0 : Nat) (m1 : Nat) (m2 : Nat) (m3 : Nat) (th : Int32) (kp : Int32) (ln : Int32) (ca : Int32) (lt : Int32) (fi : Int32) (sd : Int32) (hs : Int64) (B : Nat → Nat → Nat → Int32) (T : Nat → Int32) (h : Nat → Int32) (z : Nat) (x : Int32) (y : Int32) (hz6 : z ≤ 6) (hG : GB (B 0)) (h6 : B 0 6 = ht (B 0)) : CE (U := (Int32) × (Nat → Nat → Nat → Int32) × (Int32) × (Nat → Int32) × (Int32)) l yX7_bear wsX7_bear ({ frames := 3, cells := 0, slots := 0, locals := 67 }) D (tyL cI cZ cS cJ) [.ref m0, .int x, .int y] (List.flatten [mdO m0 m1 m2 m3 th (nI z) kp ln ca lt fi sd hs, arC cI m1 1170 (enc B), arC cI m2 60 T, arC cI m3 8 h]) (fun u => (Res (k2 (isR x) (inR y 0 500)) u.1 (B, nI z) (uA (savB B z) 0 (beaS (B 0) x.toNatClampNeg y), nI (savZ z)) (u.2.1, u.2.2.1) (B 0 5 x.toNatClampNeg) u.2.2.2.2)) (fun u => some (.int u.2.2.2.2)) (fun u => List.flatten [mdO m0 m1 m2 m3 u.1 u.2.2.1 kp ln ca lt fi sd hs, arC cI m1 1170 (enc u.2.1), arC cI m2 60 T, arC cI m3 8 u.2.2.2.1]) 0 0 := by
  refine CE_int (cc := cX7_bear) (maxL := 3) (rt := .int) (by decide) rfl (Nat.le_of_ble_eq_true rfl) (fun _ _ => rfl) ?_
  intro p e s m below meth c A ls Q X hK hP hD hS hA hl hend
  have X : CallFix p m c cX7_bear 3 s ([.ref m0, .int x, .int y] : List Value).toArray wsX7_bear RX7 := X
  obtain ⟨hx, hb, hml, hown, hts⟩ := id X
  have hl : lv_has ls 3 [(0, .ref m0), (1, .int x), (2, .int y)] := hl
  refine lv_aload_n hx hb dX7_bear_0 rfl (lv_at hl 0 rfl) ?_
  refine lv_iload_n hx hb dX7_bear_1 rfl (lv_at hl 1 rfl) ?_
  refine kcallS (As := [.int x]) (rest := [.ref m0]) (Wn := [mdO m0 m1 m2 m3 th (nI z) kp ln ca lt fi sd hs, arC cI m1 1170 (enc B), arC cI m2 60 T, arC cI m3 8 h]) X (c_X7_isRibbon l D cI cZ cS cJ x) (va_cwS 1 hts gX7_bear_X7_isRibbon rfl rfl rfl (by decide +kernel) ⟨Nat.le_of_ble_eq_true rfl, Nat.le_of_ble_eq_true rfl⟩) hK hP hD hS hA [] rfl (by decide +kernel) rfl rfl rfl rfl hl.1 rfl (Nat.le_of_ble_eq_true rfl) dX7_bear_2 ⟨Nat.le_of_ble_eq_true rfl, Nat.le_of_ble_eq_true rfl⟩ (fun H locs hP hD hS => ?_)
  refine lv_if_ne (tgt := 12) hx hb dX7_bear_5 (by decide) (fun c5 => ?_) (fun c5 => ?_)
  · skip
    obtain ⟨r, hr7, rfl⟩ := rib_of (b1_t c5)
    have hP : va_P D vwCl (List.flatten [mdO m0 m1 m2 m3 th (nI z) kp ln ca lt fi sd hs, arC cI m1 1170 (enc B), arC cI m2 60 T, arC cI m3 8 h]) _ := hP
    have hD : va_D A (List.flatten [mdO m0 m1 m2 m3 th (nI z) kp ln ca lt fi sd hs, arC cI m1 1170 (enc B), arC cI m2 60 T, arC cI m3 8 h]) := hD
    have hl : lv_has ls 3 [(0, .ref m0), (1, .int (nI r)), (2, .int y)] := hl
    have ec : (nI r).toNatClampNeg = r := nI_clamp (by omega)
    refine lv_iload_n hx hb dX7_bear_12 rfl (lv_at hl 2 rfl) ?_
    refine lv_iconst (v := 0) hx hb dX7_bear_13 (by decide) ?_
    refine lv_sipush (v := 500) hx hb dX7_bear_14 (by decide) ?_
    refine kcallS (As := [.int y, .int 0, .int 500]) (rest := [.ref m0]) (Wn := [mdO m0 m1 m2 m3 th (nI z) kp ln ca lt fi sd hs, arC cI m1 1170 (enc B), arC cI m2 60 T, arC cI m3 8 h]) X (c_X7_in l D cI cZ cS cJ y 0 500) (va_cwS 3 hts gX7_bear_X7_in rfl rfl rfl (by decide +kernel) ⟨Nat.le_of_ble_eq_true rfl, Nat.le_of_ble_eq_true rfl⟩) hK hP hD hS hA [] rfl (by decide +kernel) rfl rfl rfl rfl hl.1 rfl (Nat.le_of_ble_eq_true rfl) dX7_bear_17 ⟨Nat.le_of_ble_eq_true rfl, Nat.le_of_ble_eq_true rfl⟩ (fun H locs hP hD hS => ?_)
    refine lv_if_ne (tgt := 27) hx hb dX7_bear_20 (by decide) (fun c20 => ?_) (fun c20 => ?_)
    · skip
      refine lv_iconst (v := 0) hx hb dX7_bear_27 (by decide) ?_
      refine kcallV (As := [.int 0]) (rest := []) (Wn := [mdO m0 m1 m2 m3 0 (nI z) kp ln ca lt fi sd hs, arC cI m1 1170 (enc B), arC cI m2 60 T, arC cI m3 8 h]) X (c_X7_holds l D cI cZ cS cJ m0 m1 m2 m3 th (nI z) kp ln ca lt fi sd hs B T h 0) (cwV 1 hts gX7_bear_X7_holds rfl rfl rfl (by decide +kernel) ⟨Nat.le_of_ble_eq_true rfl, Nat.le_of_ble_eq_true rfl⟩) hK hP hD hS hA [0, 1, 2, 3] rfl (by decide +kernel) rfl rfl rfl 0 7 rfl rfl rfl hl.1 rfl (Nat.le_of_ble_eq_true rfl) dX7_bear_28 ⟨Nat.le_of_ble_eq_true rfl, Nat.le_of_ble_eq_true rfl⟩ (fun H locs hP hD hS => ?_)
      refine lv_eqi (y := 1) (by decide) ?_
      refine lv_if_eq (tgt := 50) hx hb dX7_bear_31 (by decide) (fun h => absurd h (by decide)) (fun _ => ?_)
      refine lv_aload_n hx hb dX7_bear_34 rfl (lv_at hl 0 rfl) ?_
      refine lv_bipush (v := 49) hx hb dX7_bear_35 (by decide) ?_
      refine lv_iconst (v := 3) hx hb dX7_bear_37 (by decide) ?_
      refine lv_iload_n hx hb dX7_bear_38 rfl (lv_at hl 1 rfl) ?_
      refine lv_imul hx hb dX7_bear_39 ?_
      refine lv_eqi (y := nI (3 * r)) (pk_mul _ _) ?_
      refine lv_iadd hx hb dX7_bear_40 ?_
      refine lv_eqi (y := nI (49 + (3 * r))) (nI_add _ _) ?_
      refine lv_iconst (v := 2) hx hb dX7_bear_41 (by decide) ?_
      refine lv_iadd hx hb dX7_bear_42 ?_
      refine lv_eqi (y := nI ((49 + (3 * r)) + 2)) (nI_add _ _) ?_
      refine lv_iload_n hx hb dX7_bear_43 rfl (lv_at hl 2 rfl) ?_
      refine kcallV (As := [.int (nI ((49 + (3 * r)) + 2)), .int y]) (rest := []) (Wn := [mdO m0 m1 m2 m3 0 (nI (savZ z)) kp ln ca lt fi sd hs, arC cI m1 1170 (upd (enc (savB B z)) ((49 + (3 * r)) + 2) y), arC cI m2 60 T, arC cI m3 8 h]) X (c_X7_changed l D cI cZ cS cJ m0 m1 m2 m3 0 kp ln ca lt fi sd hs B T h z ((49 + (3 * r)) + 2) y (by omega) (by omega)) (cwV 2 hts gX7_bear_X7_changed rfl rfl rfl (by decide +kernel) ⟨Nat.le_of_ble_eq_true rfl, Nat.le_of_ble_eq_true rfl⟩) hK hP hD hS hA [0, 1, 2, 3] rfl (by decide +kernel) rfl rfl rfl 0 7 rfl rfl rfl hl.1 rfl (Nat.le_of_ble_eq_true rfl) dX7_bear_44 ⟨Nat.le_of_ble_eq_true rfl, Nat.le_of_ble_eq_true rfl⟩ (fun H locs hP hD hS => ?_)
      obtain ⟨hP, hD⟩ := PD_cg hP hD 1 (enc (uA (savB B z) 0 (beaS (B 0) r y))) rfl (fun j _ => congrFun (sav_uq B z (w := 2) hr7 (by decide) y) j) (wn := List.flatten [mdO m0 m1 m2 m3 0 (nI (savZ z)) kp ln ca lt fi sd hs, arC cI m1 1170 (enc (uA (savB B z) 0 (beaS (B 0) r y))), arC cI m2 60 T, arC cI m3 8 h]) rfl
      refine lv_goto (tgt := 51) hx hb dX7_bear_47 (by decide) ?_
      refine hend (0, (uA (savB B z) 0 (beaS (B 0) r y)), nI (savZ z), h, enc B ((49 + (3 * r)) + 2)) _ _ _ _ _ (by first | exact Res_bad (k2_1 (b1_z c5)) nz1 rfl | (rw [ec]; first | exact Res_bad (k2_2 (b1_t c5) (b1_z c20)) nz2 rfl | exact Res_ok (k2_0 (b1_t c5) (b1_t c20)) rfl rfl (enc_q0 B (w := 2) hr7 (by decide)))) ?_ hP hD hS dX7_bear_51
      exact rfl
    · skip
      refine lv_iconst (v := 2) hx hb dX7_bear_23 (by decide) ?_
      refine lv_goto (tgt := 28) hx hb dX7_bear_24 (by decide) ?_
      refine kcallV (As := [.int 2]) (rest := []) (Wn := [mdO m0 m1 m2 m3 2 (nI z) kp ln ca lt fi sd hs, arC cI m1 1170 (enc B), arC cI m2 60 T, arC cI m3 8 h]) X (c_X7_holds l D cI cZ cS cJ m0 m1 m2 m3 th (nI z) kp ln ca lt fi sd hs B T h 2) (cwV 1 hts gX7_bear_X7_holds rfl rfl rfl (by decide +kernel) ⟨Nat.le_of_ble_eq_true rfl, Nat.le_of_ble_eq_true rfl⟩) hK hP hD hS hA [0, 1, 2, 3] rfl (by decide +kernel) rfl rfl rfl 0 7 rfl rfl rfl hl.1 rfl (Nat.le_of_ble_eq_true rfl) dX7_bear_28 ⟨Nat.le_of_ble_eq_true rfl, Nat.le_of_ble_eq_true rfl⟩ (fun H locs hP hD hS => ?_)
      refine lv_eqi (y := 0) (by decide) ?_
      refine lv_if_eq (tgt := 50) hx hb dX7_bear_31 (by decide) (fun _ => ?_) (fun h => absurd (by decide) h)
      refine lv_iconst (v := 0) hx hb dX7_bear_50 (by decide) ?_
      refine hend (2, B, nI z, h, 0) _ _ _ _ _ (by first | exact Res_bad (k2_1 (b1_z c5)) nz1 rfl | (rw [ec]; first | exact Res_bad (k2_2 (b1_t c5) (b1_z c20)) nz2 rfl | exact Res_ok (k2_0 (b1_t c5) (b1_t c20)) rfl rfl (enc_q0 B (w := 2) hr7 (by decide)))) ?_ hP hD hS dX7_bear_51
      exact rfl
  · skip
    refine lv_iconst (v := 1) hx hb dX7_bear_8 (by decide) ?_
    refine lv_goto (tgt := 28) hx hb dX7_bear_9 (by decide) ?_
    refine kcallV (As := [.int 1]) (rest := []) (Wn := [mdO m0 m1 m2 m3 1 (nI z) kp ln ca lt fi sd hs, arC cI m1 1170 (enc B), arC cI m2 60 T, arC cI m3 8 h]) X (c_X7_holds l D cI cZ cS cJ m0 m1 m2 m3 th (nI z) kp ln ca lt fi sd hs B T h 1) (cwV 1 hts gX7_bear_X7_holds rfl rfl rfl (by decide +kernel) ⟨Nat.le_of_ble_eq_true rfl, Nat.le_of_ble_eq_true rfl⟩) hK hP hD hS hA [0, 1, 2, 3] rfl (by decide +kernel) rfl rfl rfl 0 7 rfl rfl rfl hl.1 rfl (Nat.le_of_ble_eq_true rfl) dX7_bear_28 ⟨Nat.le_of_ble_eq_true rfl, Nat.le_of_ble_eq_true rfl⟩ (fun H locs hP hD hS => ?_)
    refine lv_eqi (y := 0) (by decide) ?_
    refine lv_if_eq (tgt := 50) hx hb dX7_bear_31 (by decide) (fun _ => ?_) (fun h => absurd (by decide) h)
    refine lv_iconst (v := 0) hx hb dX7_bear_50 (by decide) ?_
    refine hend (1, B, nI z, h, 0) _ _ _ _ _ (by first | exact Res_bad (k2_1 (b1_z c5)) nz1 rfl | (rw [ec]; first | exact Res_bad (k2_2 (b1_t c5) (b1_z c20)) nz2 rfl | exact Res_ok (k2_0 (b1_t c5) (b1_t c20)) rfl rfl (enc_q0 B (w := 2) hr7 (by decide)))) ?_ hP hD hS dX7_bear_51
    exact rfl

set_option maxHeartbeats 4000000 in
set_option maxRecDepth 100000 in
theorem c_X7_tune (l : Launch) (D : va_G) (cI cZ cS cJ : ClassId) (m0 : Nat) (m1 : Nat) (m2 : Nat) (m3 : Nat) (th : Int32) (kp : Int32) (ln : Int32) (ca : Int32) (lt : Int32) (fi : Int32) (sd : Int32) (hs : Int64) (B : Nat → Nat → Nat → Int32) (T : Nat → Int32) (h : Nat → Int32) (z : Nat) (x : Int32) (y : Int32) (hz6 : z ≤ 6) (hG : GB (B 0)) (h6 : B 0 6 = ht (B 0)) : CE (U := (Int32) × (Nat → Nat → Nat → Int32) × (Int32) × (Nat → Int32) × (Int32)) l yX7_tune wsX7_tune ({ frames := 6, cells := 0, slots := 0, locals := 132 }) D (tyL cI cZ cS cJ) [.ref m0, .int x, .int y] (List.flatten [mdO m0 m1 m2 m3 th (nI z) kp ln ca lt fi sd hs, arC cI m1 1170 (enc B), arC cI m2 60 T, arC cI m3 8 h]) (fun u => (Res (k2 (isB x) (inR y (-20) 20)) u.1 (B, nI z) (uA (savB B z) 0 (tunS (B 0) x.toNatClampNeg y), nI (savZ z)) (u.2.1, u.2.2.1) (tel (B 0) x.toNatClampNeg) u.2.2.2.2)) (fun u => some (.int u.2.2.2.2)) (fun u => List.flatten [mdO m0 m1 m2 m3 u.1 u.2.2.1 kp ln ca lt fi sd hs, arC cI m1 1170 (enc u.2.1), arC cI m2 60 T, arC cI m3 8 u.2.2.2.1]) 0 0 := by
  refine CE_int (cc := cX7_tune) (maxL := 4) (rt := .int) (by decide) rfl (Nat.le_of_ble_eq_true rfl) (fun _ _ => rfl) ?_
  intro p e s m below meth c A ls Q X hK hP hD hS hA hl hend
  have X : CallFix p m c cX7_tune 4 s ([.ref m0, .int x, .int y] : List Value).toArray wsX7_tune RX7 := X
  obtain ⟨hx, hb, hml, hown, hts⟩ := id X
  have hl : lv_has ls 4 [(0, .ref m0), (1, .int x), (2, .int y)] := hl
  have hinX7 : ∀ w ∈ u_ws RX7 TX7 12, w ∈ wsX7_tune := by decide +kernel
  refine lv_aload_n hx hb dX7_tune_0 rfl (lv_at hl 0 rfl) ?_
  refine lv_iload_n hx hb dX7_tune_1 rfl (lv_at hl 1 rfl) ?_
  refine kcallS (As := [.int x]) (rest := [.ref m0]) (Wn := [mdO m0 m1 m2 m3 th (nI z) kp ln ca lt fi sd hs, arC cI m1 1170 (enc B), arC cI m2 60 T, arC cI m3 8 h]) X (c_X7_isBalloon l D cI cZ cS cJ x) (va_cwS 1 hts gX7_tune_X7_isBalloon rfl rfl rfl (by decide +kernel) ⟨Nat.le_of_ble_eq_true rfl, Nat.le_of_ble_eq_true rfl⟩) hK hP hD hS hA [] rfl (by decide +kernel) rfl rfl rfl rfl hl.1 rfl (Nat.le_of_ble_eq_true rfl) dX7_tune_2 ⟨Nat.le_of_ble_eq_true rfl, Nat.le_of_ble_eq_true rfl⟩ (fun H locs hP hD hS => ?_)
  refine lv_if_ne (tgt := 12) hx hb dX7_tune_5 (by decide) (fun c5 => ?_) (fun c5 => ?_)
  · skip
    obtain ⟨b, hb8, rfl⟩ := bal_of (b1_t c5)
    have hP : va_P D vwCl (List.flatten [mdO m0 m1 m2 m3 th (nI z) kp ln ca lt fi sd hs, arC cI m1 1170 (enc B), arC cI m2 60 T, arC cI m3 8 h]) _ := hP
    have hD : va_D A (List.flatten [mdO m0 m1 m2 m3 th (nI z) kp ln ca lt fi sd hs, arC cI m1 1170 (enc B), arC cI m2 60 T, arC cI m3 8 h]) := hD
    have hl : lv_has ls 4 [(0, .ref m0), (1, .int (nI b)), (2, .int y)] := hl
    have ec : (nI b).toNatClampNeg = b := nI_clamp (by omega)
    refine lv_iload_n hx hb dX7_tune_12 rfl (lv_at hl 2 rfl) ?_
    refine lv_bipush (v := (-20)) hx hb dX7_tune_13 (by decide) ?_
    refine lv_bipush (v := 20) hx hb dX7_tune_15 (by decide) ?_
    refine kcallS (As := [.int y, .int (-20), .int 20]) (rest := [.ref m0]) (Wn := [mdO m0 m1 m2 m3 th (nI z) kp ln ca lt fi sd hs, arC cI m1 1170 (enc B), arC cI m2 60 T, arC cI m3 8 h]) X (c_X7_in l D cI cZ cS cJ y (-20) 20) (va_cwS 3 hts gX7_tune_X7_in rfl rfl rfl (by decide +kernel) ⟨Nat.le_of_ble_eq_true rfl, Nat.le_of_ble_eq_true rfl⟩) hK hP hD hS hA [] rfl (by decide +kernel) rfl rfl rfl rfl hl.1 rfl (Nat.le_of_ble_eq_true rfl) dX7_tune_17 ⟨Nat.le_of_ble_eq_true rfl, Nat.le_of_ble_eq_true rfl⟩ (fun H locs hP hD hS => ?_)
    refine lv_if_ne (tgt := 27) hx hb dX7_tune_20 (by decide) (fun c20 => ?_) (fun c20 => ?_)
    · skip
      refine lv_iconst (v := 0) hx hb dX7_tune_27 (by decide) ?_
      refine kcallV (As := [.int 0]) (rest := []) (Wn := [mdO m0 m1 m2 m3 0 (nI z) kp ln ca lt fi sd hs, arC cI m1 1170 (enc B), arC cI m2 60 T, arC cI m3 8 h]) X (c_X7_holds l D cI cZ cS cJ m0 m1 m2 m3 th (nI z) kp ln ca lt fi sd hs B T h 0) (cwV 1 hts gX7_tune_X7_holds rfl rfl rfl (by decide +kernel) ⟨Nat.le_of_ble_eq_true rfl, Nat.le_of_ble_eq_true rfl⟩) hK hP hD hS hA [0, 1, 2, 3] rfl (by decide +kernel) rfl rfl rfl 0 7 rfl rfl rfl hl.1 rfl (Nat.le_of_ble_eq_true rfl) dX7_tune_28 ⟨Nat.le_of_ble_eq_true rfl, Nat.le_of_ble_eq_true rfl⟩ (fun H locs hP hD hS => ?_)
      refine lv_eqi (y := 1) (by decide) ?_
      refine lv_if_ne (tgt := 36) hx hb dX7_tune_31 (by decide) (fun _ => ?_) (fun h => absurd h (by decide))
      refine lv_aload_n hx hb dX7_tune_36 rfl (lv_at hl 0 rfl) ?_
      refine kcallV (As := []) (rest := []) (Wn := [mdO m0 m1 m2 m3 0 (nI (savZ z)) kp ln ca lt fi sd hs, arC cI m1 1170 (enc (savB B z)), arC cI m2 60 T, arC cI m3 8 h]) X (c_X7_save l D cI cZ cS cJ m0 m1 m2 m3 0 kp ln ca lt fi sd hs B T h z (by omega)) (cwV 0 hts gX7_tune_X7_save rfl rfl rfl (by decide +kernel) ⟨Nat.le_of_ble_eq_true rfl, Nat.le_of_ble_eq_true rfl⟩) hK hP hD hS hA [0, 1, 2, 3] rfl (by decide +kernel) rfl rfl rfl 0 7 rfl rfl rfl hl.1 rfl (Nat.le_of_ble_eq_true rfl) dX7_tune_37 ⟨Nat.le_of_ble_eq_true rfl, Nat.le_of_ble_eq_true rfl⟩ (fun H locs hP hD hS => ?_)
      refine lv_aload_n hx hb dX7_tune_40 rfl (lv_at hl 0 rfl) ?_
      refine lv_iload_n hx hb dX7_tune_41 rfl (lv_at hl 1 rfl) ?_
      refine kcallV (As := [.int (nI b)]) (rest := []) (Wn := [mdO m0 m1 m2 m3 0 (nI (savZ z)) kp ln ca lt fi sd hs, arC cI m1 1170 (enc (savB B z)), arC cI m2 60 T, arC cI m3 8 (ht ((savB B z) 0))]) X (c_X7_tells l D cI cZ cS cJ m0 m1 m2 m3 0 (nI (savZ z)) kp ln ca lt fi sd hs (savB B z) T h b (by omega) (by rw [sav_0]; exact GB_T hG)) (cwV 1 hts gX7_tune_X7_tells rfl rfl rfl (by decide +kernel) ⟨Nat.le_of_ble_eq_true rfl, Nat.le_of_ble_eq_true rfl⟩) hK hP hD hS hA [0, 1, 2, 3] rfl (by decide +kernel) rfl rfl rfl 0 7 rfl rfl rfl hl.1 rfl (Nat.le_of_ble_eq_true rfl) dX7_tune_42 ⟨Nat.le_of_ble_eq_true rfl, Nat.le_of_ble_eq_true rfl⟩ (fun H locs hP hD hS => ?_)
      refine lv_eqi (y := tel (B 0) b) (by rw [sav_0, mend_id h6]) ?_
      refine lv_istore_n (lv' := [(3, .int (tel (B 0) b)), (0, .ref m0), (1, .int (nI b)), (2, .int y)]) hx hb dX7_tune_45 rfl hl (by decide) rfl (fun ls hl => ?_)
      refine lv_aload_n hx hb dX7_tune_46 rfl (lv_at hl 1 rfl) ?_
      refine va_get (D := D) (ci := 7) (v := .ref m1) (C := RX7) (T := TX7) (N := 12) hx hb hts hinX7 hown hK hP 0 rfl rfl 1 (by decide) (hts (.fieldLink RX7 7 "RibbonBalloonsModel" "s" "[I") (by decide +kernel)) (fun _ h9 => h9) rfl dX7_tune_47 ?_
      refine lv_bipush (v := 9) hx hb dX7_tune_50 (by decide) ?_
      refine lv_iconst (v := 5) hx hb dX7_tune_52 (by decide) ?_
      refine lv_iload_n hx hb dX7_tune_53 rfl (lv_at hl 2 rfl) ?_
      refine lv_imul hx hb dX7_tune_54 ?_
      refine lv_eqi (y := nI (5 * b)) (pk_mul _ _) ?_
      refine lv_iadd hx hb dX7_tune_55 ?_
      refine lv_eqi (y := nI (9 + (5 * b))) (nI_add _ _) ?_
      refine lv_iconst (v := 3) hx hb dX7_tune_56 (by decide) ?_
      refine lv_iadd hx hb dX7_tune_57 ?_
      refine lv_eqi (y := nI ((9 + (5 * b)) + 3)) (nI_add _ _) ?_
      refine lv_iload_n hx hb dX7_tune_58 rfl (lv_at hl 3 rfl) ?_
      refine r_iast hx hb hK hP hD hS 1 0 ((9 + (5 * b)) + 3) (f := enc (savB B z)) (x := y) (wn := List.flatten [mdO m0 m1 m2 m3 0 (nI (savZ z)) kp ln ca lt fi sd hs, arC cI m1 1170 (upd (enc (savB B z)) ((9 + (5 * b)) + 3) y), arC cI m2 60 T, arC cI m3 8 (ht ((savB B z) 0))]) rfl rfl (by omega) (by omega) rfl dX7_tune_59 (fun H locs hP hD hS => ?_)
      obtain ⟨hP, hD⟩ := PD_cg hP hD 1 (enc (uA (savB B z) 0 (u2 (B 0) 10 b y))) rfl (fun j _ => congrFun (sav_ub B z (w := 3) hb8 (by decide) y) j) (wn := List.flatten [mdO m0 m1 m2 m3 0 (nI (savZ z)) kp ln ca lt fi sd hs, arC cI m1 1170 (enc (uA (savB B z) 0 (u2 (B 0) 10 b y))), arC cI m2 60 T, arC cI m3 8 (ht ((savB B z) 0))]) rfl
      refine lv_aload_n hx hb dX7_tune_60 rfl (lv_at hl 1 rfl) ?_
      refine va_get (D := D) (ci := 7) (v := .ref m1) (C := RX7) (T := TX7) (N := 12) hx hb hts hinX7 hown hK hP 0 rfl rfl 1 (by decide) (hts (.fieldLink RX7 7 "RibbonBalloonsModel" "s" "[I") (by decide +kernel)) (fun _ h9 => h9) rfl dX7_tune_61 ?_
      refine lv_bipush (v := 9) hx hb dX7_tune_64 (by decide) ?_
      refine lv_iconst (v := 5) hx hb dX7_tune_66 (by decide) ?_
      refine lv_iload_n hx hb dX7_tune_67 rfl (lv_at hl 2 rfl) ?_
      refine lv_imul hx hb dX7_tune_68 ?_
      refine lv_eqi (y := nI (5 * b)) (pk_mul _ _) ?_
      refine lv_iadd hx hb dX7_tune_69 ?_
      refine lv_eqi (y := nI (9 + (5 * b))) (nI_add _ _) ?_
      refine lv_iconst (v := 4) hx hb dX7_tune_70 (by decide) ?_
      refine lv_iadd hx hb dX7_tune_71 ?_
      refine lv_eqi (y := nI ((9 + (5 * b)) + 4)) (nI_add _ _) ?_
      refine lv_aload_n hx hb dX7_tune_72 rfl (lv_at hl 1 rfl) ?_
      refine va_get (D := D) (ci := 7) (v := .ref m1) (C := RX7) (T := TX7) (N := 12) hx hb hts hinX7 hown hK hP 0 rfl rfl 1 (by decide) (hts (.fieldLink RX7 7 "RibbonBalloonsModel" "s" "[I") (by decide +kernel)) (fun _ h9 => h9) rfl dX7_tune_73 ?_
      refine lv_iconst (v := 0) hx hb dX7_tune_76 (by decide) ?_
      refine r_iald hx hb hK hP 1 0 0 (f := enc (uA (savB B z) 0 (u2 (B 0) 10 b y))) rfl rfl (by omega) (by omega) dX7_tune_77 ?_
      refine lv_eqi (y := B 0 12 0) (by rw [enc_at0 _ (by decide), uA_s]; rfl) ?_
      refine r_iast hx hb hK hP hD hS 1 0 ((9 + (5 * b)) + 4) (f := enc (uA (savB B z) 0 (u2 (B 0) 10 b y))) (x := B 0 12 0) (wn := List.flatten [mdO m0 m1 m2 m3 0 (nI (savZ z)) kp ln ca lt fi sd hs, arC cI m1 1170 (upd (enc (uA (savB B z) 0 (u2 (B 0) 10 b y))) ((9 + (5 * b)) + 4) (B 0 12 0)), arC cI m2 60 T, arC cI m3 8 (ht ((savB B z) 0))]) rfl rfl (by omega) (by omega) rfl dX7_tune_78 (fun H locs hP hD hS => ?_)
      obtain ⟨hP, hD⟩ := PD_cg hP hD 1 (enc (uA (savB B z) 0 (tunS (B 0) b y))) rfl (fun j _ => congrFun (enc_ub0 (savB B z) (u2 (B 0) 10 b y) (w := 4) hb8 (by decide) (B 0 12 0)) j) (wn := List.flatten [mdO m0 m1 m2 m3 0 (nI (savZ z)) kp ln ca lt fi sd hs, arC cI m1 1170 (enc (uA (savB B z) 0 (tunS (B 0) b y))), arC cI m2 60 T, arC cI m3 8 (ht ((savB B z) 0))]) rfl
      refine lv_iload_n hx hb dX7_tune_79 rfl (lv_at hl 0 rfl) ?_
      refine hend (0, (uA (savB B z) 0 (tunS (B 0) b y)), nI (savZ z), ht ((savB B z) 0), tel (B 0) b) _ _ _ _ _ (by first | exact Res_bad (k2_1 (b1_z c5)) nz1 rfl | (rw [ec]; first | exact Res_bad (k2_2 (b1_t c5) (b1_z c20)) nz2 rfl | exact Res_ok (k2_0 (b1_t c5) (b1_t c20)) rfl rfl (rfl))) ?_ hP hD hS dX7_tune_80
      exact rfl
    · skip
      refine lv_iconst (v := 2) hx hb dX7_tune_23 (by decide) ?_
      refine lv_goto (tgt := 28) hx hb dX7_tune_24 (by decide) ?_
      refine kcallV (As := [.int 2]) (rest := []) (Wn := [mdO m0 m1 m2 m3 2 (nI z) kp ln ca lt fi sd hs, arC cI m1 1170 (enc B), arC cI m2 60 T, arC cI m3 8 h]) X (c_X7_holds l D cI cZ cS cJ m0 m1 m2 m3 th (nI z) kp ln ca lt fi sd hs B T h 2) (cwV 1 hts gX7_tune_X7_holds rfl rfl rfl (by decide +kernel) ⟨Nat.le_of_ble_eq_true rfl, Nat.le_of_ble_eq_true rfl⟩) hK hP hD hS hA [0, 1, 2, 3] rfl (by decide +kernel) rfl rfl rfl 0 7 rfl rfl rfl hl.1 rfl (Nat.le_of_ble_eq_true rfl) dX7_tune_28 ⟨Nat.le_of_ble_eq_true rfl, Nat.le_of_ble_eq_true rfl⟩ (fun H locs hP hD hS => ?_)
      refine lv_eqi (y := 0) (by decide) ?_
      refine lv_if_ne (tgt := 36) hx hb dX7_tune_31 (by decide) (fun h => absurd h (by decide)) (fun _ => ?_)
      refine lv_iconst (v := 0) hx hb dX7_tune_34 (by decide) ?_
      refine hend (2, B, nI z, h, 0) _ _ _ _ _ (by first | exact Res_bad (k2_1 (b1_z c5)) nz1 rfl | (rw [ec]; first | exact Res_bad (k2_2 (b1_t c5) (b1_z c20)) nz2 rfl | exact Res_ok (k2_0 (b1_t c5) (b1_t c20)) rfl rfl (rfl))) ?_ hP hD hS dX7_tune_35
      exact rfl
  · skip
    refine lv_iconst (v := 1) hx hb dX7_tune_8 (by decide) ?_
    refine lv_goto (tgt := 28) hx hb dX7_tune_9 (by decide) ?_
    refine kcallV (As := [.int 1]) (rest := []) (Wn := [mdO m0 m1 m2 m3 1 (nI z) kp ln ca lt fi sd hs, arC cI m1 1170 (enc B), arC cI m2 60 T, arC cI m3 8 h]) X (c_X7_holds l D cI cZ cS cJ m0 m1 m2 m3 th (nI z) kp ln ca lt fi sd hs B T h 1) (cwV 1 hts gX7_tune_X7_holds rfl rfl rfl (by decide +kernel) ⟨Nat.le_of_ble_eq_true rfl, Nat.le_of_ble_eq_true rfl⟩) hK hP hD hS hA [0, 1, 2, 3] rfl (by decide +kernel) rfl rfl rfl 0 7 rfl rfl rfl hl.1 rfl (Nat.le_of_ble_eq_true rfl) dX7_tune_28 ⟨Nat.le_of_ble_eq_true rfl, Nat.le_of_ble_eq_true rfl⟩ (fun H locs hP hD hS => ?_)
    refine lv_eqi (y := 0) (by decide) ?_
    refine lv_if_ne (tgt := 36) hx hb dX7_tune_31 (by decide) (fun h => absurd h (by decide)) (fun _ => ?_)
    refine lv_iconst (v := 0) hx hb dX7_tune_34 (by decide) ?_
    refine hend (1, B, nI z, h, 0) _ _ _ _ _ (by first | exact Res_bad (k2_1 (b1_z c5)) nz1 rfl | (rw [ec]; first | exact Res_bad (k2_2 (b1_t c5) (b1_z c20)) nz2 rfl | exact Res_ok (k2_0 (b1_t c5) (b1_t c20)) rfl rfl (rfl))) ?_ hP hD hS dX7_tune_35
    exact rfl

set_option maxHeartbeats 4000000 in
set_option maxRecDepth 100000 in
theorem c_X7_note (l : Launch) (D : va_G) (cI cZ cS cJ : ClassId) (m0 : Nat) (m1 : Nat) (m2 : Nat) (m3 : Nat) (th : Int32) (kp : Int32) (ln : Int32) (ca : Int32) (lt : Int32) (fi : Int32) (sd : Int32) (hs : Int64) (B : Nat → Nat → Nat → Int32) (T : Nat → Int32) (h : Nat → Int32) (z : Nat) (y0 : Nat) (x : Int32) (hz6 : z ≤ 6) (hG : GB (B 0)) (h6 : B 0 6 = ht (B 0)) (hy : B 0 12 8 = nI y0) (hy20 : y0 ≤ 20) : CE (U := (Int32) × (Nat → Nat → Nat → Int32) × (Int32) × (Nat → Int32) × (Int32)) l yX7_note wsX7_note ({ frames := 7, cells := 0, slots := 0, locals := 156 }) D (tyL cI cZ cS cJ) [.ref m0, .int x] (List.flatten [mdO m0 m1 m2 m3 th (nI z) kp ln ca lt fi sd hs, arC cI m1 1170 (enc B), arC cI m2 60 T, arC cI m3 8 h]) (fun u => (Res (k1 (isB x)) u.1 (B, nI z) (uA (savB B z) 0 (notS (B 0) y0 x.toNatClampNeg), nI (savZ z)) (u.2.1, u.2.2.1) (tel (B 0) x.toNatClampNeg) u.2.2.2.2)) (fun u => some (.int u.2.2.2.2)) (fun u => List.flatten [mdO m0 m1 m2 m3 u.1 u.2.2.1 kp ln ca lt fi sd hs, arC cI m1 1170 (enc u.2.1), arC cI m2 60 T, arC cI m3 8 u.2.2.2.1]) 0 0 := by
  refine CE_int (cc := cX7_note) (maxL := 2) (rt := .int) (by decide) rfl (Nat.le_of_ble_eq_true rfl) (fun _ _ => rfl) ?_
  intro p e s m below meth c A ls Q X hK hP hD hS hA hl hend
  have X : CallFix p m c cX7_note 2 s ([.ref m0, .int x] : List Value).toArray wsX7_note RX7 := X
  obtain ⟨hx, hb, hml, hown, hts⟩ := id X
  have hl : lv_has ls 2 [(0, .ref m0), (1, .int x)] := hl
  refine lv_aload_n hx hb dX7_note_0 rfl (lv_at hl 0 rfl) ?_
  refine lv_iload_n hx hb dX7_note_1 rfl (lv_at hl 1 rfl) ?_
  refine kcallS (As := [.int x]) (rest := [.ref m0]) (Wn := [mdO m0 m1 m2 m3 th (nI z) kp ln ca lt fi sd hs, arC cI m1 1170 (enc B), arC cI m2 60 T, arC cI m3 8 h]) X (c_X7_isBalloon l D cI cZ cS cJ x) (va_cwS 1 hts gX7_note_X7_isBalloon rfl rfl rfl (by decide +kernel) ⟨Nat.le_of_ble_eq_true rfl, Nat.le_of_ble_eq_true rfl⟩) hK hP hD hS hA [] rfl (by decide +kernel) rfl rfl rfl rfl hl.1 rfl (Nat.le_of_ble_eq_true rfl) dX7_note_2 ⟨Nat.le_of_ble_eq_true rfl, Nat.le_of_ble_eq_true rfl⟩ (fun H locs hP hD hS => ?_)
  refine lv_if_eq (tgt := 12) hx hb dX7_note_5 (by decide) (fun c5 => ?_) (fun c5 => ?_)
  · skip
    refine lv_iconst (v := 1) hx hb dX7_note_12 (by decide) ?_
    refine kcallV (As := [.int 1]) (rest := []) (Wn := [mdO m0 m1 m2 m3 1 (nI z) kp ln ca lt fi sd hs, arC cI m1 1170 (enc B), arC cI m2 60 T, arC cI m3 8 h]) X (c_X7_holds l D cI cZ cS cJ m0 m1 m2 m3 th (nI z) kp ln ca lt fi sd hs B T h 1) (cwV 1 hts gX7_note_X7_holds rfl rfl rfl (by decide +kernel) ⟨Nat.le_of_ble_eq_true rfl, Nat.le_of_ble_eq_true rfl⟩) hK hP hD hS hA [0, 1, 2, 3] rfl (by decide +kernel) rfl rfl rfl 0 7 rfl rfl rfl hl.1 rfl (Nat.le_of_ble_eq_true rfl) dX7_note_13 ⟨Nat.le_of_ble_eq_true rfl, Nat.le_of_ble_eq_true rfl⟩ (fun H locs hP hD hS => ?_)
    refine lv_eqi (y := 0) (by decide) ?_
    refine lv_if_ne (tgt := 21) hx hb dX7_note_16 (by decide) (fun h => absurd h (by decide)) (fun _ => ?_)
    refine lv_iconst (v := 0) hx hb dX7_note_19 (by decide) ?_
    refine hend (1, B, nI z, h, 0) _ _ _ _ _ (by first | exact Res_bad (k1_1 (b1_z c5)) nz1 rfl | (rw [ec]; exact Res_ok (k1_0 (b1_t c5)) rfl rfl (by rw [sav_0]))) ?_ hP hD hS dX7_note_20
    exact rfl
  · skip
    obtain ⟨b, hb8, rfl⟩ := bal_of (b1_t c5)
    have hP : va_P D vwCl (List.flatten [mdO m0 m1 m2 m3 th (nI z) kp ln ca lt fi sd hs, arC cI m1 1170 (enc B), arC cI m2 60 T, arC cI m3 8 h]) _ := hP
    have hD : va_D A (List.flatten [mdO m0 m1 m2 m3 th (nI z) kp ln ca lt fi sd hs, arC cI m1 1170 (enc B), arC cI m2 60 T, arC cI m3 8 h]) := hD
    have hl : lv_has ls 2 [(0, .ref m0), (1, .int (nI b))] := hl
    have ec : (nI b).toNatClampNeg = b := nI_clamp (by omega)
    refine lv_iconst (v := 0) hx hb dX7_note_8 (by decide) ?_
    refine lv_goto (tgt := 13) hx hb dX7_note_9 (by decide) ?_
    refine kcallV (As := [.int 0]) (rest := []) (Wn := [mdO m0 m1 m2 m3 0 (nI z) kp ln ca lt fi sd hs, arC cI m1 1170 (enc B), arC cI m2 60 T, arC cI m3 8 h]) X (c_X7_holds l D cI cZ cS cJ m0 m1 m2 m3 th (nI z) kp ln ca lt fi sd hs B T h 0) (cwV 1 hts gX7_note_X7_holds rfl rfl rfl (by decide +kernel) ⟨Nat.le_of_ble_eq_true rfl, Nat.le_of_ble_eq_true rfl⟩) hK hP hD hS hA [0, 1, 2, 3] rfl (by decide +kernel) rfl rfl rfl 0 7 rfl rfl rfl hl.1 rfl (Nat.le_of_ble_eq_true rfl) dX7_note_13 ⟨Nat.le_of_ble_eq_true rfl, Nat.le_of_ble_eq_true rfl⟩ (fun H locs hP hD hS => ?_)
    refine lv_eqi (y := 1) (by decide) ?_
    refine lv_if_ne (tgt := 21) hx hb dX7_note_16 (by decide) (fun _ => ?_) (fun h => absurd h (by decide))
    refine lv_aload_n hx hb dX7_note_21 rfl (lv_at hl 0 rfl) ?_
    refine kcallV (As := []) (rest := []) (Wn := [mdO m0 m1 m2 m3 0 (nI (savZ z)) kp ln ca lt fi sd hs, arC cI m1 1170 (enc (savB B z)), arC cI m2 60 T, arC cI m3 8 h]) X (c_X7_save l D cI cZ cS cJ m0 m1 m2 m3 0 kp ln ca lt fi sd hs B T h z (by omega)) (cwV 0 hts gX7_note_X7_save rfl rfl rfl (by decide +kernel) ⟨Nat.le_of_ble_eq_true rfl, Nat.le_of_ble_eq_true rfl⟩) hK hP hD hS hA [0, 1, 2, 3] rfl (by decide +kernel) rfl rfl rfl 0 7 rfl rfl rfl hl.1 rfl (Nat.le_of_ble_eq_true rfl) dX7_note_22 ⟨Nat.le_of_ble_eq_true rfl, Nat.le_of_ble_eq_true rfl⟩ (fun H locs hP hD hS => ?_)
    refine lv_aload_n hx hb dX7_note_25 rfl (lv_at hl 0 rfl) ?_
    refine lv_iload_n hx hb dX7_note_26 rfl (lv_at hl 1 rfl) ?_
    refine kcallVE (As := [.int (nI b)]) (rest := []) (Wn := fun u => [mdO m0 m1 m2 m3 0 (nI (savZ z)) kp ln ca lt fi sd hs, arC cI m1 1170 (enc (uA (savB B z) 0 (notS ((savB B z) 0) y0 b))), arC cI m2 60 T, arC cI m3 8 u]) X (c_X7_notes l D cI cZ cS cJ m0 m1 m2 m3 0 (nI (savZ z)) kp ln ca lt fi sd hs (savB B z) T h y0 b (by rw [sav_0]; exact hy) hy20 (by omega) (by rw [sav_0]; exact hG) (by rw [sav_0]; exact h6)) (cwV 1 hts gX7_note_X7_notes rfl rfl rfl (by decide +kernel) ⟨Nat.le_of_ble_eq_true rfl, Nat.le_of_ble_eq_true rfl⟩) hK hP hD hS hA [0, 1, 2, 3] rfl (by decide +kernel) (fun _ => rfl) (fun _ => rfl) (fun _ => rfl) 0 7 rfl rfl rfl hl.1 rfl (Nat.le_of_ble_eq_true rfl) dX7_note_27 ⟨Nat.le_of_ble_eq_true rfl, Nat.le_of_ble_eq_true rfl⟩ (fun h9_1 H locs hu hP hD hS => ?_)
    have hP : va_P D vwCl (List.flatten [mdO m0 m1 m2 m3 0 (nI (savZ z)) kp ln ca lt fi sd hs, arC cI m1 1170 (enc (uA (savB B z) 0 (notS ((savB B z) 0) y0 b))), arC cI m2 60 T, arC cI m3 8 h9_1]) _ := hP
    have hD : va_D A (List.flatten [mdO m0 m1 m2 m3 0 (nI (savZ z)) kp ln ca lt fi sd hs, arC cI m1 1170 (enc (uA (savB B z) 0 (notS ((savB B z) 0) y0 b))), arC cI m2 60 T, arC cI m3 8 h9_1]) := hD
    obtain ⟨hP, hD⟩ := PD_cg hP hD 1 (enc (uA (savB B z) 0 (notS (B 0) y0 b))) rfl (fun j _ => by rw [sav_0]) (wn := List.flatten [mdO m0 m1 m2 m3 0 (nI (savZ z)) kp ln ca lt fi sd hs, arC cI m1 1170 (enc (uA (savB B z) 0 (notS (B 0) y0 b))), arC cI m2 60 T, arC cI m3 8 h9_1]) rfl
    refine hend (0, (uA (savB B z) 0 (notS (B 0) y0 b)), nI (savZ z), h9_1, tel ((savB B z) 0) b) _ _ _ _ _ (by first | exact Res_bad (k1_1 (b1_z c5)) nz1 rfl | (rw [ec]; exact Res_ok (k1_0 (b1_t c5)) rfl rfl (by rw [sav_0]))) ?_ hP hD hS dX7_note_30
    exact rfl

set_option maxHeartbeats 4000000 in
set_option maxRecDepth 100000 in
theorem c_X7_pass (l : Launch) (D : va_G) (cI cZ cS cJ : ClassId) (m0 : Nat) (m1 : Nat) (m2 : Nat) (m3 : Nat) (th : Int32) (kp : Int32) (ln : Int32) (ca : Int32) (lt : Int32) (fi : Int32) (sd : Int32) (hs : Int64) (B : Nat → Nat → Nat → Int32) (T : Nat → Int32) (h : Nat → Int32) (z : Nat) (x : Int32) (hz6 : z ≤ 6) (hG : GB (B 0)) (h6 : B 0 6 = ht (B 0)) : CE (U := (Int32) × (Nat → Nat → Nat → Int32) × (Int32) × (Nat → Int32) × (Int32)) l yX7_pass wsX7_pass ({ frames := 7, cells := 0, slots := 0, locals := 166 }) D (tyL cI cZ cS cJ) [.ref m0, .int x] (List.flatten [mdO m0 m1 m2 m3 th (nI z) kp ln ca lt fi sd hs, arC cI m1 1170 (enc B), arC cI m2 60 T, arC cI m3 8 h]) (fun u => (Res (k1 (inR x 1 99)) u.1 (B, nI z) (uA (savB B z) 0 (hrs (B 0) x.toNatClampNeg), nI (savZ z)) (u.2.1, u.2.2.1) (sm (fun k => svn (hrs (B 0) k)) x.toNatClampNeg) u.2.2.2.2)) (fun u => some (.int u.2.2.2.2)) (fun u => List.flatten [mdO m0 m1 m2 m3 u.1 u.2.2.1 kp ln ca lt fi sd hs, arC cI m1 1170 (enc u.2.1), arC cI m2 60 T, arC cI m3 8 u.2.2.2.1]) 0 0 := by
  refine CE_int (cc := cX7_pass) (maxL := 2) (rt := .int) (by decide) rfl (Nat.le_of_ble_eq_true rfl) (fun _ _ => rfl) ?_
  intro p e s m below meth c A ls Q X hK hP hD hS hA hl hend
  have X : CallFix p m c cX7_pass 2 s ([.ref m0, .int x] : List Value).toArray wsX7_pass RX7 := X
  obtain ⟨hx, hb, hml, hown, hts⟩ := id X
  have hl : lv_has ls 2 [(0, .ref m0), (1, .int x)] := hl
  refine lv_aload_n hx hb dX7_pass_0 rfl (lv_at hl 0 rfl) ?_
  refine lv_iload_n hx hb dX7_pass_1 rfl (lv_at hl 1 rfl) ?_
  refine kcallS (As := [.int x]) (rest := [.ref m0]) (Wn := [mdO m0 m1 m2 m3 th (nI z) kp ln ca lt fi sd hs, arC cI m1 1170 (enc B), arC cI m2 60 T, arC cI m3 8 h]) X (c_X7_isAmount l D cI cZ cS cJ x) (va_cwS 1 hts gX7_pass_X7_isAmount rfl rfl rfl (by decide +kernel) ⟨Nat.le_of_ble_eq_true rfl, Nat.le_of_ble_eq_true rfl⟩) hK hP hD hS hA [] rfl (by decide +kernel) rfl rfl rfl rfl hl.1 rfl (Nat.le_of_ble_eq_true rfl) dX7_pass_2 ⟨Nat.le_of_ble_eq_true rfl, Nat.le_of_ble_eq_true rfl⟩ (fun H locs hP hD hS => ?_)
  refine lv_if_eq (tgt := 12) hx hb dX7_pass_5 (by decide) (fun c5 => ?_) (fun c5 => ?_)
  · skip
    refine lv_iconst (v := 1) hx hb dX7_pass_12 (by decide) ?_
    refine kcallV (As := [.int 1]) (rest := []) (Wn := [mdO m0 m1 m2 m3 1 (nI z) kp ln ca lt fi sd hs, arC cI m1 1170 (enc B), arC cI m2 60 T, arC cI m3 8 h]) X (c_X7_holds l D cI cZ cS cJ m0 m1 m2 m3 th (nI z) kp ln ca lt fi sd hs B T h 1) (cwV 1 hts gX7_pass_X7_holds rfl rfl rfl (by decide +kernel) ⟨Nat.le_of_ble_eq_true rfl, Nat.le_of_ble_eq_true rfl⟩) hK hP hD hS hA [0, 1, 2, 3] rfl (by decide +kernel) rfl rfl rfl 0 7 rfl rfl rfl hl.1 rfl (Nat.le_of_ble_eq_true rfl) dX7_pass_13 ⟨Nat.le_of_ble_eq_true rfl, Nat.le_of_ble_eq_true rfl⟩ (fun H locs hP hD hS => ?_)
    refine lv_eqi (y := 0) (by decide) ?_
    refine lv_if_ne (tgt := 21) hx hb dX7_pass_16 (by decide) (fun h => absurd h (by decide)) (fun _ => ?_)
    refine lv_iconst (v := 0) hx hb dX7_pass_19 (by decide) ?_
    refine hend (1, B, nI z, h, 0) _ _ _ _ _ (by first | exact Res_bad (k1_1 (b1_z c5)) nz1 rfl | (rw [ec]; exact Res_ok (k1_0 (b1_t c5)) rfl rfl (by rw [sav_0]))) ?_ hP hD hS dX7_pass_20
    exact rfl
  · skip
    obtain ⟨n, hn1, hn99, rfl⟩ := amt_of (b1_t c5)
    have hP : va_P D vwCl (List.flatten [mdO m0 m1 m2 m3 th (nI z) kp ln ca lt fi sd hs, arC cI m1 1170 (enc B), arC cI m2 60 T, arC cI m3 8 h]) _ := hP
    have hD : va_D A (List.flatten [mdO m0 m1 m2 m3 th (nI z) kp ln ca lt fi sd hs, arC cI m1 1170 (enc B), arC cI m2 60 T, arC cI m3 8 h]) := hD
    have hl : lv_has ls 2 [(0, .ref m0), (1, .int (nI n))] := hl
    have ec : (nI n).toNatClampNeg = n := nI_clamp (by omega)
    refine lv_iconst (v := 0) hx hb dX7_pass_8 (by decide) ?_
    refine lv_goto (tgt := 13) hx hb dX7_pass_9 (by decide) ?_
    refine kcallV (As := [.int 0]) (rest := []) (Wn := [mdO m0 m1 m2 m3 0 (nI z) kp ln ca lt fi sd hs, arC cI m1 1170 (enc B), arC cI m2 60 T, arC cI m3 8 h]) X (c_X7_holds l D cI cZ cS cJ m0 m1 m2 m3 th (nI z) kp ln ca lt fi sd hs B T h 0) (cwV 1 hts gX7_pass_X7_holds rfl rfl rfl (by decide +kernel) ⟨Nat.le_of_ble_eq_true rfl, Nat.le_of_ble_eq_true rfl⟩) hK hP hD hS hA [0, 1, 2, 3] rfl (by decide +kernel) rfl rfl rfl 0 7 rfl rfl rfl hl.1 rfl (Nat.le_of_ble_eq_true rfl) dX7_pass_13 ⟨Nat.le_of_ble_eq_true rfl, Nat.le_of_ble_eq_true rfl⟩ (fun H locs hP hD hS => ?_)
    refine lv_eqi (y := 1) (by decide) ?_
    refine lv_if_ne (tgt := 21) hx hb dX7_pass_16 (by decide) (fun _ => ?_) (fun h => absurd h (by decide))
    refine lv_aload_n hx hb dX7_pass_21 rfl (lv_at hl 0 rfl) ?_
    refine kcallV (As := []) (rest := []) (Wn := [mdO m0 m1 m2 m3 0 (nI (savZ z)) kp ln ca lt fi sd hs, arC cI m1 1170 (enc (savB B z)), arC cI m2 60 T, arC cI m3 8 h]) X (c_X7_save l D cI cZ cS cJ m0 m1 m2 m3 0 kp ln ca lt fi sd hs B T h z (by omega)) (cwV 0 hts gX7_pass_X7_save rfl rfl rfl (by decide +kernel) ⟨Nat.le_of_ble_eq_true rfl, Nat.le_of_ble_eq_true rfl⟩) hK hP hD hS hA [0, 1, 2, 3] rfl (by decide +kernel) rfl rfl rfl 0 7 rfl rfl rfl hl.1 rfl (Nat.le_of_ble_eq_true rfl) dX7_pass_22 ⟨Nat.le_of_ble_eq_true rfl, Nat.le_of_ble_eq_true rfl⟩ (fun H locs hP hD hS => ?_)
    refine lv_aload_n hx hb dX7_pass_25 rfl (lv_at hl 0 rfl) ?_
    refine lv_iload_n hx hb dX7_pass_26 rfl (lv_at hl 1 rfl) ?_
    refine kcallVE (As := [.int (nI n)]) (rest := []) (Wn := fun u => [mdO m0 m1 m2 m3 0 (nI (savZ z)) kp ln ca lt fi sd hs, arC cI m1 1170 (enc (uA (savB B z) 0 (hrs ((savB B z) 0) n))), arC cI m2 60 T, arC cI m3 8 u]) X (c_X7_passes l D cI cZ cS cJ m0 m1 m2 m3 0 (nI (savZ z)) kp ln ca lt fi sd hs (savB B z) T h n (by omega) (by rw [sav_0]; exact hG)) (cwV 1 hts gX7_pass_X7_passes rfl rfl rfl (by decide +kernel) ⟨Nat.le_of_ble_eq_true rfl, Nat.le_of_ble_eq_true rfl⟩) hK hP hD hS hA [0, 1, 2, 3] rfl (by decide +kernel) (fun _ => rfl) (fun _ => rfl) (fun _ => rfl) 0 7 rfl rfl rfl hl.1 rfl (Nat.le_of_ble_eq_true rfl) dX7_pass_27 ⟨Nat.le_of_ble_eq_true rfl, Nat.le_of_ble_eq_true rfl⟩ (fun h9_1 H locs hu hP hD hS => ?_)
    have hP : va_P D vwCl (List.flatten [mdO m0 m1 m2 m3 0 (nI (savZ z)) kp ln ca lt fi sd hs, arC cI m1 1170 (enc (uA (savB B z) 0 (hrs ((savB B z) 0) n))), arC cI m2 60 T, arC cI m3 8 h9_1]) _ := hP
    have hD : va_D A (List.flatten [mdO m0 m1 m2 m3 0 (nI (savZ z)) kp ln ca lt fi sd hs, arC cI m1 1170 (enc (uA (savB B z) 0 (hrs ((savB B z) 0) n))), arC cI m2 60 T, arC cI m3 8 h9_1]) := hD
    obtain ⟨hP, hD⟩ := PD_cg hP hD 1 (enc (uA (savB B z) 0 (hrs (B 0) n))) rfl (fun j _ => by rw [sav_0]) (wn := List.flatten [mdO m0 m1 m2 m3 0 (nI (savZ z)) kp ln ca lt fi sd hs, arC cI m1 1170 (enc (uA (savB B z) 0 (hrs (B 0) n))), arC cI m2 60 T, arC cI m3 8 h9_1]) rfl
    refine hend (0, (uA (savB B z) 0 (hrs (B 0) n)), nI (savZ z), h9_1, sm (fun k => svn (hrs ((savB B z) 0) k)) n) _ _ _ _ _ (by first | exact Res_bad (k1_1 (b1_z c5)) nz1 rfl | (rw [ec]; exact Res_ok (k1_0 (b1_t c5)) rfl rfl (by rw [sav_0]))) ?_ hP hD hS dX7_pass_30
    exact rfl

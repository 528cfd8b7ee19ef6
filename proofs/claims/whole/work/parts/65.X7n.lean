set_option maxHeartbeats 4000000 in
set_option maxRecDepth 100000 in
theorem c_X7_mixRow (l : Launch) (D : va_G) (cI cZ cS cJ : ClassId) (m0 : Nat) (m1 : Nat) (m2 : Nat) (m3 : Nat) (th : Int32) (sv : Int32) (kp : Int32) (ln : Int32) (ca : Int32) (lt : Int32) (fi : Int32) (sd : Int32) (hs : Int64) (B : Nat → Nat → Nat → Int32) (T : Nat → Int32) (h : Nat → Int32) (hG : GB (B 0)) (h6 : B 0 6 = ht (B 0)) : CE (U := (Nat → Nat → Nat → Int32) × (Nat → Int32)) l yX7_mixRow wsX7_mixRow ({ frames := 7, cells := 0, slots := 0, locals := 165 }) D (tyL cI cZ cS cJ) [.ref m0] (List.flatten [mdO m0 m1 m2 m3 th sv kp ln ca lt fi sd hs, arC cI m1 1170 (enc B), arC cI m2 60 T, arC cI m3 8 h]) (fun u => (∀ a, a < 8 → u.1 a = B a)) (fun u => none) (fun u => List.flatten [mdO m0 m1 m2 m3 th sv kp ln ca lt fi sd (rowsR (B 0) 7 (rowsB (B 0) 8 hs)), arC cI m1 1170 (enc u.1), arC cI m2 60 T, arC cI m3 8 u.2]) 0 0 := by
  refine CE_void (cc := cX7_mixRow) (maxL := 3) (by decide) rfl (Nat.le_of_ble_eq_true rfl) ?_
  intro p e s m below meth c A ls Q X hnm hK hP hD hS hA hl hend
  have X : CallFix p m c cX7_mixRow 3 s ([.ref m0] : List Value).toArray wsX7_mixRow RX7 := X
  obtain ⟨hx, hb, hml, hown, hts⟩ := id X
  have hl : lv_has ls 3 [(0, .ref m0)] := hl
  refine lv_iconst (v := 0) hx hb dX7_mixRow_0 (by decide) ?_
  refine lv_istore_n (lv' := [(1, .int 0), (0, .ref m0)]) hx hb dX7_mixRow_1 rfl hl (by decide) rfl (fun ls hl => ?_)
  have lp_2 : ∀ (nn : Nat) (k : Nat) (BB : Nat → Nat → Nat → Int32) (hh : Nat → Int32), True → (k ≤ 8) → (∀ a, a < 8 → BB a = B a) → 8 - k < nn → ∀ (H : Heap) (locs : List Loc) (ls : Array Slot), va_P D vwCl (List.flatten [mdO m0 m1 m2 m3 th sv kp ln ca lt fi sd (rowsB (B 0) k hs), arC cI m1 1170 (enc BB), arC cI m2 60 T, arC cI m3 8 hh]) H → va_D A (List.flatten [mdO m0 m1 m2 m3 th sv kp ln ca lt fi sd (rowsB (B 0) k hs), arC cI m1 1170 (enc BB), arC cI m2 60 T, arC cI m3 8 hh]) → va_S A s.heap H locs → lv_has ls 3 [(0, .ref m0), (1, .int (nI k))] → W p l e ({ frames := 7, cells := 0, slots := 0, locals := 165 } : Room) s m ([.ref m0] : List Value).toArray below meth c H locs 0 0 Q (F0 m 2 ls []) := by
    intro nn
    induction nn with
    | zero => intro k BB hh _ hk h8 hmz; exact absurd hmz (Nat.not_lt_zero _)
    | succ nn ih_2 =>
      intro k BB hh _ hk h8 hms H locs ls hP hD hS hl
      refine lv_iload_n hx hb dX7_mixRow_2 rfl (lv_at hl 1 rfl) ?_
      refine lv_bipush (v := 8) hx hb dX7_mixRow_3 (by decide) ?_
      refine n_ge (i := k) (j := 8) (tgt := 97) hx hb (by omega) (by omega) dX7_mixRow_5 (by decide) (fun c5 => ?_) (fun c5 => ?_)
      · skip
        obtain rfl : k = 8 := by omega
        have hP : va_P D vwCl (List.flatten [mdO m0 m1 m2 m3 th sv kp ln ca lt fi sd (rowsB (B 0) 8 hs), arC cI m1 1170 (enc BB), arC cI m2 60 T, arC cI m3 8 hh]) _ := hP
        have hD : va_D A (List.flatten [mdO m0 m1 m2 m3 th sv kp ln ca lt fi sd (rowsB (B 0) 8 hs), arC cI m1 1170 (enc BB), arC cI m2 60 T, arC cI m3 8 hh]) := hD
        have hl : lv_has ls 3 [(0, .ref m0), (1, .int (nI 8))] := hl
        refine lv_iconst (v := 0) hx hb dX7_mixRow_97 (by decide) ?_
        refine lv_istore_n (lv' := [(1, .int 0), (0, .ref m0)]) hx hb dX7_mixRow_98 rfl hl (by decide) rfl (fun ls hl => ?_)
        have lp_99 : ∀ (nn : Nat) (r : Nat) (hh2 : Nat → Int32), True → (r ≤ 7) → 7 - r < nn → ∀ (H : Heap) (locs : List Loc) (ls : Array Slot), va_P D vwCl (List.flatten [mdO m0 m1 m2 m3 th sv kp ln ca lt fi sd (rowsR (B 0) r (rowsB (B 0) 8 hs)), arC cI m1 1170 (enc BB), arC cI m2 60 T, arC cI m3 8 hh2]) H → va_D A (List.flatten [mdO m0 m1 m2 m3 th sv kp ln ca lt fi sd (rowsR (B 0) r (rowsB (B 0) 8 hs)), arC cI m1 1170 (enc BB), arC cI m2 60 T, arC cI m3 8 hh2]) → va_S A s.heap H locs → lv_has ls 3 [(0, .ref m0), (1, .int (nI r))] → W p l e ({ frames := 7, cells := 0, slots := 0, locals := 165 } : Room) s m ([.ref m0] : List Value).toArray below meth c H locs 0 0 Q (F0 m 99 ls []) := by
          intro nn
          induction nn with
          | zero => intro r hh2 _ hr hmz; exact absurd hmz (Nat.not_lt_zero _)
          | succ nn ih_99 =>
            intro r hh2 _ hr hms H locs ls hP hD hS hl
            refine lv_iload_n hx hb dX7_mixRow_99 rfl (lv_at hl 1 rfl) ?_
            refine lv_bipush (v := 7) hx hb dX7_mixRow_100 (by decide) ?_
            refine n_ge (i := r) (j := 7) (tgt := 157) hx hb (by omega) (by omega) dX7_mixRow_102 (by decide) (fun c102 => ?_) (fun c102 => ?_)
            · skip
              obtain rfl : r = 7 := by omega
              have hP : va_P D vwCl (List.flatten [mdO m0 m1 m2 m3 th sv kp ln ca lt fi sd (rowsR (B 0) 7 (rowsB (B 0) 8 hs)), arC cI m1 1170 (enc BB), arC cI m2 60 T, arC cI m3 8 hh2]) _ := hP
              have hD : va_D A (List.flatten [mdO m0 m1 m2 m3 th sv kp ln ca lt fi sd (rowsR (B 0) 7 (rowsB (B 0) 8 hs)), arC cI m1 1170 (enc BB), arC cI m2 60 T, arC cI m3 8 hh2]) := hD
              have hl : lv_has ls 3 [(0, .ref m0), (1, .int (nI 7))] := hl
              exact hend (BB, hh2) _ _ _ _ (by exact h8) hP hD hS dX7_mixRow_157
            · skip
              refine lv_iconst (v := 0) hx hb dX7_mixRow_105 (by decide) ?_
              refine lv_istore_n (lv' := [(2, .int 0), (0, .ref m0), (1, .int (nI r))]) hx hb dX7_mixRow_106 rfl hl (by decide) rfl (fun ls hl => ?_)
              have lp_107 : ∀ (nn : Nat) (w5 : Nat) (h5 : Nat → Int32), True → (w5 ≤ 5) → 5 - w5 < nn → ∀ (H : Heap) (locs : List Loc) (ls : Array Slot), va_P D vwCl (List.flatten [mdO m0 m1 m2 m3 th sv kp ln ca lt fi sd (hm (ribS (B 0) r) w5 (rowsR (B 0) r (rowsB (B 0) 8 hs))), arC cI m1 1170 (enc BB), arC cI m2 60 T, arC cI m3 8 h5]) H → va_D A (List.flatten [mdO m0 m1 m2 m3 th sv kp ln ca lt fi sd (hm (ribS (B 0) r) w5 (rowsR (B 0) r (rowsB (B 0) 8 hs))), arC cI m1 1170 (enc BB), arC cI m2 60 T, arC cI m3 8 h5]) → va_S A s.heap H locs → lv_has ls 3 [(0, .ref m0), (1, .int (nI r)), (2, .int (nI w5))] → W p l e ({ frames := 7, cells := 0, slots := 0, locals := 165 } : Room) s m ([.ref m0] : List Value).toArray below meth c H locs 0 0 Q (F0 m 107 ls []) := by
                intro nn
                induction nn with
                | zero => intro w5 h5 _ hw5 hmz; exact absurd hmz (Nat.not_lt_zero _)
                | succ nn ih_107 =>
                  intro w5 h5 _ hw5 hms H locs ls hP hD hS hl
                  refine lv_iload_n hx hb dX7_mixRow_107 rfl (lv_at hl 2 rfl) ?_
                  refine lv_iconst (v := 5) hx hb dX7_mixRow_108 (by decide) ?_
                  refine n_ge (i := w5) (j := 5) (tgt := 129) hx hb (by omega) (by omega) dX7_mixRow_109 (by decide) (fun c109 => ?_) (fun c109 => ?_)
                  · skip
                    obtain rfl : w5 = 5 := by omega
                    have hP : va_P D vwCl (List.flatten [mdO m0 m1 m2 m3 th sv kp ln ca lt fi sd (hm (ribS (B 0) r) 5 (rowsR (B 0) r (rowsB (B 0) 8 hs))), arC cI m1 1170 (enc BB), arC cI m2 60 T, arC cI m3 8 h5]) _ := hP
                    have hD : va_D A (List.flatten [mdO m0 m1 m2 m3 th sv kp ln ca lt fi sd (hm (ribS (B 0) r) 5 (rowsR (B 0) r (rowsB (B 0) 8 hs))), arC cI m1 1170 (enc BB), arC cI m2 60 T, arC cI m3 8 h5]) := hD
                    have hl : lv_has ls 3 [(0, .ref m0), (1, .int (nI r)), (2, .int (nI 5))] := hl
                    refine lv_aload_n hx hb dX7_mixRow_129 rfl (lv_at hl 0 rfl) ?_
                    refine lv_aload_n hx hb dX7_mixRow_130 rfl (lv_at hl 0 rfl) ?_
                    refine lv_iload_n hx hb dX7_mixRow_131 rfl (lv_at hl 1 rfl) ?_
                    refine lv_iconst (v := 4) hx hb dX7_mixRow_132 (by decide) ?_
                    refine kcallVE (As := [.int (nI r), .int 4]) (rest := [.ref m0]) (Wn := fun u => [mdO m0 m1 m2 m3 th sv kp ln ca lt fi sd (hm (ribS (B 0) r) 5 (rowsR (B 0) r (rowsB (B 0) 8 hs))), arC cI m1 1170 (enc BB), arC cI m2 60 T, arC cI m3 8 u]) X (c_X7_reason4 l D cI cZ cS cJ m0 m1 m2 m3 th sv kp ln ca lt fi sd (hm (ribS (B 0) r) 5 (rowsR (B 0) r (rowsB (B 0) 8 hs))) BB T h5 r (by omega) (by rw [h8 0 (by decide)]; exact hG) (by rw [h8 0 (by decide)]; exact h6) (by omega)) (cwV 2 hts gX7_mixRow_X7_reason rfl rfl rfl (by decide +kernel) ⟨Nat.le_of_ble_eq_true rfl, Nat.le_of_ble_eq_true rfl⟩) hK hP hD hS hA [0, 1, 2, 3] rfl (by decide +kernel) (fun _ => rfl) (fun _ => rfl) (fun _ => rfl) 0 7 rfl rfl rfl hl.1 rfl (Nat.le_of_ble_eq_true rfl) dX7_mixRow_133 ⟨Nat.le_of_ble_eq_true rfl, Nat.le_of_ble_eq_true rfl⟩ (fun h9_1 H locs hu hP hD hS => ?_)
                    have hP : va_P D vwCl (List.flatten [mdO m0 m1 m2 m3 th sv kp ln ca lt fi sd (hm (ribS (B 0) r) 5 (rowsR (B 0) r (rowsB (B 0) 8 hs))), arC cI m1 1170 (enc BB), arC cI m2 60 T, arC cI m3 8 h9_1]) _ := hP
                    have hD : va_D A (List.flatten [mdO m0 m1 m2 m3 th sv kp ln ca lt fi sd (hm (ribS (B 0) r) 5 (rowsR (B 0) r (rowsB (B 0) 8 hs))), arC cI m1 1170 (enc BB), arC cI m2 60 T, arC cI m3 8 h9_1]) := hD
                    refine lv_eqi (y := whyS (B 0) r 4) (by rw [h8 0 (by decide)]) ?_
                    refine lv_i2l (v := (whyS (B 0) r 4).toInt64) hx hb dX7_mixRow_136 rfl ?_
                    refine kcallV (As := [.long ((whyS (B 0) r 4).toInt64)]) (rest := []) (Wn := [mdO m0 m1 m2 m3 th sv kp ln ca lt fi sd ((31 * (hm (ribS (B 0) r) 5 (rowsR (B 0) r (rowsB (B 0) 8 hs)))) + ((whyS (B 0) r 4).toInt64)), arC cI m1 1170 (enc BB), arC cI m2 60 T, arC cI m3 8 h9_1]) X (c_X7_mix l D cI cZ cS cJ m0 m1 m2 m3 th sv kp ln ca lt fi sd (hm (ribS (B 0) r) 5 (rowsR (B 0) r (rowsB (B 0) 8 hs))) BB T h9_1 ((whyS (B 0) r 4).toInt64)) (cwV 1 hts gX7_mixRow_X7_mix rfl rfl rfl (by decide +kernel) ⟨Nat.le_of_ble_eq_true rfl, Nat.le_of_ble_eq_true rfl⟩) hK hP hD hS hA [0, 1, 2, 3] rfl (by decide +kernel) rfl rfl rfl 0 7 rfl rfl rfl hl.1 rfl (Nat.le_of_ble_eq_true rfl) dX7_mixRow_137 ⟨Nat.le_of_ble_eq_true rfl, Nat.le_of_ble_eq_true rfl⟩ (fun H locs hP hD hS => ?_)
                    refine lv_aload_n hx hb dX7_mixRow_140 rfl (lv_at hl 0 rfl) ?_
                    refine lv_aload_n hx hb dX7_mixRow_141 rfl (lv_at hl 0 rfl) ?_
                    refine lv_iload_n hx hb dX7_mixRow_142 rfl (lv_at hl 1 rfl) ?_
                    refine lv_iconst (v := 5) hx hb dX7_mixRow_143 (by decide) ?_
                    refine kcallVE (As := [.int (nI r), .int 5]) (rest := [.ref m0]) (Wn := fun u => [mdO m0 m1 m2 m3 th sv kp ln ca lt fi sd ((31 * (hm (ribS (B 0) r) 5 (rowsR (B 0) r (rowsB (B 0) 8 hs)))) + ((whyS (B 0) r 4).toInt64)), arC cI m1 1170 (enc BB), arC cI m2 60 T, arC cI m3 8 u]) X (c_X7_reason5 l D cI cZ cS cJ m0 m1 m2 m3 th sv kp ln ca lt fi sd ((31 * (hm (ribS (B 0) r) 5 (rowsR (B 0) r (rowsB (B 0) 8 hs)))) + ((whyS (B 0) r 4).toInt64)) BB T h9_1 r (by omega) (by rw [h8 0 (by decide)]; exact hG) (by rw [h8 0 (by decide)]; exact h6) (by omega)) (cwV 2 hts gX7_mixRow_X7_reason rfl rfl rfl (by decide +kernel) ⟨Nat.le_of_ble_eq_true rfl, Nat.le_of_ble_eq_true rfl⟩) hK hP hD hS hA [0, 1, 2, 3] rfl (by decide +kernel) (fun _ => rfl) (fun _ => rfl) (fun _ => rfl) 0 7 rfl rfl rfl hl.1 rfl (Nat.le_of_ble_eq_true rfl) dX7_mixRow_144 ⟨Nat.le_of_ble_eq_true rfl, Nat.le_of_ble_eq_true rfl⟩ (fun h9_2 H locs hu hP hD hS => ?_)
                    have hP : va_P D vwCl (List.flatten [mdO m0 m1 m2 m3 th sv kp ln ca lt fi sd ((31 * (hm (ribS (B 0) r) 5 (rowsR (B 0) r (rowsB (B 0) 8 hs)))) + ((whyS (B 0) r 4).toInt64)), arC cI m1 1170 (enc BB), arC cI m2 60 T, arC cI m3 8 h9_2]) _ := hP
                    have hD : va_D A (List.flatten [mdO m0 m1 m2 m3 th sv kp ln ca lt fi sd ((31 * (hm (ribS (B 0) r) 5 (rowsR (B 0) r (rowsB (B 0) 8 hs)))) + ((whyS (B 0) r 4).toInt64)), arC cI m1 1170 (enc BB), arC cI m2 60 T, arC cI m3 8 h9_2]) := hD
                    refine lv_eqi (y := whyS (B 0) r 5) (by rw [h8 0 (by decide)]) ?_
                    refine lv_i2l (v := (whyS (B 0) r 5).toInt64) hx hb dX7_mixRow_147 rfl ?_
                    refine kcallV (As := [.long ((whyS (B 0) r 5).toInt64)]) (rest := []) (Wn := [mdO m0 m1 m2 m3 th sv kp ln ca lt fi sd ((31 * ((31 * (hm (ribS (B 0) r) 5 (rowsR (B 0) r (rowsB (B 0) 8 hs)))) + ((whyS (B 0) r 4).toInt64))) + ((whyS (B 0) r 5).toInt64)), arC cI m1 1170 (enc BB), arC cI m2 60 T, arC cI m3 8 h9_2]) X (c_X7_mix l D cI cZ cS cJ m0 m1 m2 m3 th sv kp ln ca lt fi sd ((31 * (hm (ribS (B 0) r) 5 (rowsR (B 0) r (rowsB (B 0) 8 hs)))) + ((whyS (B 0) r 4).toInt64)) BB T h9_2 ((whyS (B 0) r 5).toInt64)) (cwV 1 hts gX7_mixRow_X7_mix rfl rfl rfl (by decide +kernel) ⟨Nat.le_of_ble_eq_true rfl, Nat.le_of_ble_eq_true rfl⟩) hK hP hD hS hA [0, 1, 2, 3] rfl (by decide +kernel) rfl rfl rfl 0 7 rfl rfl rfl hl.1 rfl (Nat.le_of_ble_eq_true rfl) dX7_mixRow_148 ⟨Nat.le_of_ble_eq_true rfl, Nat.le_of_ble_eq_true rfl⟩ (fun H locs hP hD hS => ?_)
                    refine lv_iinc (v := nI (r + 1)) (lv' := [(1, .int (nI (r + 1))), (0, .ref m0), (2, .int (nI 5))]) hx hb dX7_mixRow_151 hl (k := 1) rfl (nI_add _ _) (by decide) rfl (fun ls hl => ?_)
                    refine lv_goto (tgt := 99) hx hb dX7_mixRow_154 (by decide) ?_
                    have eZ : (31 * ((31 * (hm (ribS (B 0) r) 5 (rowsR (B 0) r (rowsB (B 0) 8 hs)))) + ((whyS (B 0) r 4).toInt64))) + ((whyS (B 0) r 5).toInt64) = rowsR (B 0) (r + 1) (rowsB (B 0) 8 hs) := rowsR_s _ _ _
                    obtain ⟨hP, hD⟩ := PD_re (wn := List.flatten [mdO m0 m1 m2 m3 th sv kp ln ca lt fi sd (rowsR (B 0) (r + 1) (rowsB (B 0) 8 hs)), arC cI m1 1170 (enc BB), arC cI m2 60 T, arC cI m3 8 h9_2]) (by rw [eZ]) hP hD
                    exact ih_99  (r + 1) h9_2 trivial (by omega) (by omega) _ _ _ hP hD hS (lv_sub hl [1, 0] rfl)
                  · skip
                    refine lv_aload_n hx hb dX7_mixRow_112 rfl (lv_at hl 0 rfl) ?_
                    refine lv_aload_n hx hb dX7_mixRow_113 rfl (lv_at hl 0 rfl) ?_
                    refine lv_iload_n hx hb dX7_mixRow_114 rfl (lv_at hl 1 rfl) ?_
                    refine lv_iload_n hx hb dX7_mixRow_115 rfl (lv_at hl 2 rfl) ?_
                    refine kcallVE (As := [.int (nI r), .int (nI w5)]) (rest := [.ref m0]) (Wn := fun u => [mdO m0 m1 m2 m3 th sv kp ln ca lt fi sd (hm (ribS (B 0) r) w5 (rowsR (B 0) r (rowsB (B 0) 8 hs))), arC cI m1 1170 (enc BB), arC cI m2 60 T, arC cI m3 8 u]) X (c_X7_ofRibbon l D cI cZ cS cJ m0 m1 m2 m3 th sv kp ln ca lt fi sd (hm (ribS (B 0) r) w5 (rowsR (B 0) r (rowsB (B 0) 8 hs))) BB T h5 r w5 (by omega) (by rw [h8 0 (by decide)]; exact hG) (by rw [h8 0 (by decide)]; exact h6) (by omega)) (cwV 2 hts gX7_mixRow_X7_ofRibbon rfl rfl rfl (by decide +kernel) ⟨Nat.le_of_ble_eq_true rfl, Nat.le_of_ble_eq_true rfl⟩) hK hP hD hS hA [0, 1, 2, 3] rfl (by decide +kernel) (fun _ => rfl) (fun _ => rfl) (fun _ => rfl) 0 7 rfl rfl rfl hl.1 rfl (Nat.le_of_ble_eq_true rfl) dX7_mixRow_116 ⟨Nat.le_of_ble_eq_true rfl, Nat.le_of_ble_eq_true rfl⟩ (fun h9_3 H locs hu hP hD hS => ?_)
                    have hP : va_P D vwCl (List.flatten [mdO m0 m1 m2 m3 th sv kp ln ca lt fi sd (hm (ribS (B 0) r) w5 (rowsR (B 0) r (rowsB (B 0) 8 hs))), arC cI m1 1170 (enc BB), arC cI m2 60 T, arC cI m3 8 h9_3]) _ := hP
                    have hD : va_D A (List.flatten [mdO m0 m1 m2 m3 th sv kp ln ca lt fi sd (hm (ribS (B 0) r) w5 (rowsR (B 0) r (rowsB (B 0) 8 hs))), arC cI m1 1170 (enc BB), arC cI m2 60 T, arC cI m3 8 h9_3]) := hD
                    refine lv_eqi (y := ribS (B 0) r w5) (by rw [h8 0 (by decide)]) ?_
                    refine lv_i2l (v := (ribS (B 0) r w5).toInt64) hx hb dX7_mixRow_119 rfl ?_
                    refine kcallV (As := [.long ((ribS (B 0) r w5).toInt64)]) (rest := []) (Wn := [mdO m0 m1 m2 m3 th sv kp ln ca lt fi sd ((31 * (hm (ribS (B 0) r) w5 (rowsR (B 0) r (rowsB (B 0) 8 hs)))) + ((ribS (B 0) r w5).toInt64)), arC cI m1 1170 (enc BB), arC cI m2 60 T, arC cI m3 8 h9_3]) X (c_X7_mix l D cI cZ cS cJ m0 m1 m2 m3 th sv kp ln ca lt fi sd (hm (ribS (B 0) r) w5 (rowsR (B 0) r (rowsB (B 0) 8 hs))) BB T h9_3 ((ribS (B 0) r w5).toInt64)) (cwV 1 hts gX7_mixRow_X7_mix rfl rfl rfl (by decide +kernel) ⟨Nat.le_of_ble_eq_true rfl, Nat.le_of_ble_eq_true rfl⟩) hK hP hD hS hA [0, 1, 2, 3] rfl (by decide +kernel) rfl rfl rfl 0 7 rfl rfl rfl hl.1 rfl (Nat.le_of_ble_eq_true rfl) dX7_mixRow_120 ⟨Nat.le_of_ble_eq_true rfl, Nat.le_of_ble_eq_true rfl⟩ (fun H locs hP hD hS => ?_)
                    refine lv_iinc (v := nI (w5 + 1)) (lv' := [(2, .int (nI (w5 + 1))), (0, .ref m0), (1, .int (nI r))]) hx hb dX7_mixRow_123 hl (k := 2) rfl (nI_add _ _) (by decide) rfl (fun ls hl => ?_)
                    refine lv_goto (tgt := 107) hx hb dX7_mixRow_126 (by decide) ?_
                    have eZ : (31 * (hm (ribS (B 0) r) w5 (rowsR (B 0) r (rowsB (B 0) 8 hs)))) + ((ribS (B 0) r w5).toInt64) = hm (ribS (B 0) r) (w5 + 1) (rowsR (B 0) r (rowsB (B 0) 8 hs)) := hm_s _ _ _
                    obtain ⟨hP, hD⟩ := PD_re (wn := List.flatten [mdO m0 m1 m2 m3 th sv kp ln ca lt fi sd (hm (ribS (B 0) r) (w5 + 1) (rowsR (B 0) r (rowsB (B 0) 8 hs))), arC cI m1 1170 (enc BB), arC cI m2 60 T, arC cI m3 8 h9_3]) (by rw [eZ]) hP hD
                    exact ih_107  (w5 + 1) h9_3 trivial (by omega) (by omega) _ _ _ hP hD hS (lv_sub hl [1, 2, 0] rfl)
              have hP : va_P D vwCl (List.flatten [mdO m0 m1 m2 m3 th sv kp ln ca lt fi sd (hm (ribS (B 0) r) 0 (rowsR (B 0) r (rowsB (B 0) 8 hs))), arC cI m1 1170 (enc BB), arC cI m2 60 T, arC cI m3 8 hh2]) _ := hP
              have hD : va_D A (List.flatten [mdO m0 m1 m2 m3 th sv kp ln ca lt fi sd (hm (ribS (B 0) r) 0 (rowsR (B 0) r (rowsB (B 0) 8 hs))), arC cI m1 1170 (enc BB), arC cI m2 60 T, arC cI m3 8 hh2]) := hD
              exact lp_107 (5 - 0 + 1) 0 hh2 trivial (by omega) (Nat.lt_succ_self _) _ _ _ hP hD hS (lv_sub hl [1, 2, 0] rfl)
        have hP : va_P D vwCl (List.flatten [mdO m0 m1 m2 m3 th sv kp ln ca lt fi sd (rowsR (B 0) 0 (rowsB (B 0) 8 hs)), arC cI m1 1170 (enc BB), arC cI m2 60 T, arC cI m3 8 hh]) _ := hP
        have hD : va_D A (List.flatten [mdO m0 m1 m2 m3 th sv kp ln ca lt fi sd (rowsR (B 0) 0 (rowsB (B 0) 8 hs)), arC cI m1 1170 (enc BB), arC cI m2 60 T, arC cI m3 8 hh]) := hD
        exact lp_99 (7 - 0 + 1) 0 hh trivial (by omega) (Nat.lt_succ_self _) _ _ _ hP hD hS (lv_sub hl [1, 0] rfl)
      · skip
        refine lv_iconst (v := 0) hx hb dX7_mixRow_8 (by decide) ?_
        refine lv_istore_n (lv' := [(2, .int 0), (0, .ref m0), (1, .int (nI k))]) hx hb dX7_mixRow_9 rfl hl (by decide) rfl (fun ls hl => ?_)
        have lp_10 : ∀ (nn : Nat) (w1 : Nat) (h1 : Nat → Int32), True → (w1 ≤ 12) → 12 - w1 < nn → ∀ (H : Heap) (locs : List Loc) (ls : Array Slot), va_P D vwCl (List.flatten [mdO m0 m1 m2 m3 th sv kp ln ca lt fi sd (hm (balS (B 0) k) w1 (rowsB (B 0) k hs)), arC cI m1 1170 (enc BB), arC cI m2 60 T, arC cI m3 8 h1]) H → va_D A (List.flatten [mdO m0 m1 m2 m3 th sv kp ln ca lt fi sd (hm (balS (B 0) k) w1 (rowsB (B 0) k hs)), arC cI m1 1170 (enc BB), arC cI m2 60 T, arC cI m3 8 h1]) → va_S A s.heap H locs → lv_has ls 3 [(0, .ref m0), (1, .int (nI k)), (2, .int (nI w1))] → W p l e ({ frames := 7, cells := 0, slots := 0, locals := 165 } : Room) s m ([.ref m0] : List Value).toArray below meth c H locs 0 0 Q (F0 m 10 ls []) := by
          intro nn
          induction nn with
          | zero => intro w1 h1 _ hw1 hmz; exact absurd hmz (Nat.not_lt_zero _)
          | succ nn ih_10 =>
            intro w1 h1 _ hw1 hms H locs ls hP hD hS hl
            refine lv_iload_n hx hb dX7_mixRow_10 rfl (lv_at hl 2 rfl) ?_
            refine lv_bipush (v := 12) hx hb dX7_mixRow_11 (by decide) ?_
            refine n_ge (i := w1) (j := 12) (tgt := 33) hx hb (by omega) (by omega) dX7_mixRow_13 (by decide) (fun c13 => ?_) (fun c13 => ?_)
            · skip
              obtain rfl : w1 = 12 := by omega
              have hP : va_P D vwCl (List.flatten [mdO m0 m1 m2 m3 th sv kp ln ca lt fi sd (hm (balS (B 0) k) 12 (rowsB (B 0) k hs)), arC cI m1 1170 (enc BB), arC cI m2 60 T, arC cI m3 8 h1]) _ := hP
              have hD : va_D A (List.flatten [mdO m0 m1 m2 m3 th sv kp ln ca lt fi sd (hm (balS (B 0) k) 12 (rowsB (B 0) k hs)), arC cI m1 1170 (enc BB), arC cI m2 60 T, arC cI m3 8 h1]) := hD
              have hl : lv_has ls 3 [(0, .ref m0), (1, .int (nI k)), (2, .int (nI 12))] := hl
              refine lv_iconst (v := 0) hx hb dX7_mixRow_33 (by decide) ?_
              refine lv_istore_n (lv' := [(2, .int 0), (0, .ref m0), (1, .int (nI k))]) hx hb dX7_mixRow_34 rfl hl (by decide) rfl (fun ls hl => ?_)
              have lp_35 : ∀ (nn : Nat) (w2 : Nat) (h2 : Nat → Int32), True → (w2 ≤ 4) → 4 - w2 < nn → ∀ (H : Heap) (locs : List Loc) (ls : Array Slot), va_P D vwCl (List.flatten [mdO m0 m1 m2 m3 th sv kp ln ca lt fi sd (hm (whyS (B 0) k) w2 (hm (balS (B 0) k) 12 (rowsB (B 0) k hs))), arC cI m1 1170 (enc BB), arC cI m2 60 T, arC cI m3 8 h2]) H → va_D A (List.flatten [mdO m0 m1 m2 m3 th sv kp ln ca lt fi sd (hm (whyS (B 0) k) w2 (hm (balS (B 0) k) 12 (rowsB (B 0) k hs))), arC cI m1 1170 (enc BB), arC cI m2 60 T, arC cI m3 8 h2]) → va_S A s.heap H locs → lv_has ls 3 [(0, .ref m0), (1, .int (nI k)), (2, .int (nI w2))] → W p l e ({ frames := 7, cells := 0, slots := 0, locals := 165 } : Room) s m ([.ref m0] : List Value).toArray below meth c H locs 0 0 Q (F0 m 35 ls []) := by
                intro nn
                induction nn with
                | zero => intro w2 h2 _ hw2 hmz; exact absurd hmz (Nat.not_lt_zero _)
                | succ nn ih_35 =>
                  intro w2 h2 _ hw2 hms H locs ls hP hD hS hl
                  refine lv_iload_n hx hb dX7_mixRow_35 rfl (lv_at hl 2 rfl) ?_
                  refine lv_iconst (v := 4) hx hb dX7_mixRow_36 (by decide) ?_
                  refine n_ge (i := w2) (j := 4) (tgt := 57) hx hb (by omega) (by omega) dX7_mixRow_37 (by decide) (fun c37 => ?_) (fun c37 => ?_)
                  · skip
                    obtain rfl : w2 = 4 := by omega
                    have hP : va_P D vwCl (List.flatten [mdO m0 m1 m2 m3 th sv kp ln ca lt fi sd (hm (whyS (B 0) k) 4 (hm (balS (B 0) k) 12 (rowsB (B 0) k hs))), arC cI m1 1170 (enc BB), arC cI m2 60 T, arC cI m3 8 h2]) _ := hP
                    have hD : va_D A (List.flatten [mdO m0 m1 m2 m3 th sv kp ln ca lt fi sd (hm (whyS (B 0) k) 4 (hm (balS (B 0) k) 12 (rowsB (B 0) k hs))), arC cI m1 1170 (enc BB), arC cI m2 60 T, arC cI m3 8 h2]) := hD
                    have hl : lv_has ls 3 [(0, .ref m0), (1, .int (nI k)), (2, .int (nI 4))] := hl
                    refine lv_iconst (v := 0) hx hb dX7_mixRow_57 (by decide) ?_
                    refine lv_istore_n (lv' := [(2, .int 0), (0, .ref m0), (1, .int (nI k))]) hx hb dX7_mixRow_58 rfl hl (by decide) rfl (fun ls hl => ?_)
                    have lp_59 : ∀ (nn : Nat) (w3 : Nat) (h3 : Nat → Int32) (B3 : Nat → Nat → Nat → Int32), True → (w3 ≤ 3) → (∀ a, a < 8 → B3 a = B a) → 3 - w3 < nn → ∀ (H : Heap) (locs : List Loc) (ls : Array Slot), va_P D vwCl (List.flatten [mdO m0 m1 m2 m3 th sv kp ln ca lt fi sd (hm (drpS (B 0) k) w3 (hm (whyS (B 0) k) 4 (hm (balS (B 0) k) 12 (rowsB (B 0) k hs)))), arC cI m1 1170 (enc B3), arC cI m2 60 T, arC cI m3 8 h3]) H → va_D A (List.flatten [mdO m0 m1 m2 m3 th sv kp ln ca lt fi sd (hm (drpS (B 0) k) w3 (hm (whyS (B 0) k) 4 (hm (balS (B 0) k) 12 (rowsB (B 0) k hs)))), arC cI m1 1170 (enc B3), arC cI m2 60 T, arC cI m3 8 h3]) → va_S A s.heap H locs → lv_has ls 3 [(0, .ref m0), (1, .int (nI k)), (2, .int (nI w3))] → W p l e ({ frames := 7, cells := 0, slots := 0, locals := 165 } : Room) s m ([.ref m0] : List Value).toArray below meth c H locs 0 0 Q (F0 m 59 ls []) := by
                      intro nn
                      induction nn with
                      | zero => intro w3 h3 B3 _ hw3 h8b hmz; exact absurd hmz (Nat.not_lt_zero _)
                      | succ nn ih_59 =>
                        intro w3 h3 B3 _ hw3 h8b hms H locs ls hP hD hS hl
                        refine lv_iload_n hx hb dX7_mixRow_59 rfl (lv_at hl 2 rfl) ?_
                        refine lv_iconst (v := 3) hx hb dX7_mixRow_60 (by decide) ?_
                        refine n_ge (i := w3) (j := 3) (tgt := 81) hx hb (by omega) (by omega) dX7_mixRow_61 (by decide) (fun c61 => ?_) (fun c61 => ?_)
                        · skip
                          obtain rfl : w3 = 3 := by omega
                          have hP : va_P D vwCl (List.flatten [mdO m0 m1 m2 m3 th sv kp ln ca lt fi sd (hm (drpS (B 0) k) 3 (hm (whyS (B 0) k) 4 (hm (balS (B 0) k) 12 (rowsB (B 0) k hs)))), arC cI m1 1170 (enc B3), arC cI m2 60 T, arC cI m3 8 h3]) _ := hP
                          have hD : va_D A (List.flatten [mdO m0 m1 m2 m3 th sv kp ln ca lt fi sd (hm (drpS (B 0) k) 3 (hm (whyS (B 0) k) 4 (hm (balS (B 0) k) 12 (rowsB (B 0) k hs)))), arC cI m1 1170 (enc B3), arC cI m2 60 T, arC cI m3 8 h3]) := hD
                          have hl : lv_has ls 3 [(0, .ref m0), (1, .int (nI k)), (2, .int (nI 3))] := hl
                          refine lv_aload_n hx hb dX7_mixRow_81 rfl (lv_at hl 0 rfl) ?_
                          refine lv_aload_n hx hb dX7_mixRow_82 rfl (lv_at hl 0 rfl) ?_
                          refine lv_iload_n hx hb dX7_mixRow_83 rfl (lv_at hl 1 rfl) ?_
                          refine kcallVE (As := [.int (nI k)]) (rest := [.ref m0]) (Wn := fun u => [mdO m0 m1 m2 m3 th sv kp ln ca lt fi sd (hm (drpS (B 0) k) 3 (hm (whyS (B 0) k) 4 (hm (balS (B 0) k) 12 (rowsB (B 0) k hs)))), arC cI m1 1170 (enc u.1), arC cI m2 60 T, arC cI m3 8 u.2]) X (c_X7_lands l D cI cZ cS cJ m0 m1 m2 m3 th sv kp ln ca lt fi sd (hm (drpS (B 0) k) 3 (hm (whyS (B 0) k) 4 (hm (balS (B 0) k) 12 (rowsB (B 0) k hs)))) B3 T h3 k (by omega) (by rw [h8b 0 (by decide)]; exact hG) (by rw [h8b 0 (by decide)]; exact h6)) (cwV 1 hts gX7_mixRow_X7_lands rfl rfl rfl (by decide +kernel) ⟨Nat.le_of_ble_eq_true rfl, Nat.le_of_ble_eq_true rfl⟩) hK hP hD hS hA [0, 1, 2, 3] rfl (by decide +kernel) (fun _ => rfl) (fun _ => rfl) (fun _ => rfl) 0 7 rfl rfl rfl hl.1 rfl (Nat.le_of_ble_eq_true rfl) dX7_mixRow_84 ⟨Nat.le_of_ble_eq_true rfl, Nat.le_of_ble_eq_true rfl⟩ (fun uu H locs hu hP hD hS => ?_)
                          obtain ⟨B9_4, h9_4⟩ := uu
                          have h8_4 := hu
                          have hP : va_P D vwCl (List.flatten [mdO m0 m1 m2 m3 th sv kp ln ca lt fi sd (hm (drpS (B 0) k) 3 (hm (whyS (B 0) k) 4 (hm (balS (B 0) k) 12 (rowsB (B 0) k hs)))), arC cI m1 1170 (enc B9_4), arC cI m2 60 T, arC cI m3 8 h9_4]) _ := hP
                          have hD : va_D A (List.flatten [mdO m0 m1 m2 m3 th sv kp ln ca lt fi sd (hm (drpS (B 0) k) 3 (hm (whyS (B 0) k) 4 (hm (balS (B 0) k) 12 (rowsB (B 0) k hs)))), arC cI m1 1170 (enc B9_4), arC cI m2 60 T, arC cI m3 8 h9_4]) := hD
                          refine lv_eqi (y := Lnd (B 0) 200 k) (by rw [h8b 0 (by decide)]) ?_
                          refine lv_i2l (v := (Lnd (B 0) 200 k).toInt64) hx hb dX7_mixRow_87 rfl ?_
                          refine kcallV (As := [.long ((Lnd (B 0) 200 k).toInt64)]) (rest := []) (Wn := [mdO m0 m1 m2 m3 th sv kp ln ca lt fi sd ((31 * (hm (drpS (B 0) k) 3 (hm (whyS (B 0) k) 4 (hm (balS (B 0) k) 12 (rowsB (B 0) k hs))))) + ((Lnd (B 0) 200 k).toInt64)), arC cI m1 1170 (enc B9_4), arC cI m2 60 T, arC cI m3 8 h9_4]) X (c_X7_mix l D cI cZ cS cJ m0 m1 m2 m3 th sv kp ln ca lt fi sd (hm (drpS (B 0) k) 3 (hm (whyS (B 0) k) 4 (hm (balS (B 0) k) 12 (rowsB (B 0) k hs)))) B9_4 T h9_4 ((Lnd (B 0) 200 k).toInt64)) (cwV 1 hts gX7_mixRow_X7_mix rfl rfl rfl (by decide +kernel) ⟨Nat.le_of_ble_eq_true rfl, Nat.le_of_ble_eq_true rfl⟩) hK hP hD hS hA [0, 1, 2, 3] rfl (by decide +kernel) rfl rfl rfl 0 7 rfl rfl rfl hl.1 rfl (Nat.le_of_ble_eq_true rfl) dX7_mixRow_88 ⟨Nat.le_of_ble_eq_true rfl, Nat.le_of_ble_eq_true rfl⟩ (fun H locs hP hD hS => ?_)
                          refine lv_iinc (v := nI (k + 1)) (lv' := [(1, .int (nI (k + 1))), (0, .ref m0), (2, .int (nI 3))]) hx hb dX7_mixRow_91 hl (k := 1) rfl (nI_add _ _) (by decide) rfl (fun ls hl => ?_)
                          refine lv_goto (tgt := 2) hx hb dX7_mixRow_94 (by decide) ?_
                          have eZ : (31 * (hm (drpS (B 0) k) 3 (hm (whyS (B 0) k) 4 (hm (balS (B 0) k) 12 (rowsB (B 0) k hs))))) + ((Lnd (B 0) 200 k).toInt64) = rowsB (B 0) (k + 1) hs := rowsB_s _ _ _
                          obtain ⟨hP, hD⟩ := PD_re (wn := List.flatten [mdO m0 m1 m2 m3 th sv kp ln ca lt fi sd (rowsB (B 0) (k + 1) hs), arC cI m1 1170 (enc B9_4), arC cI m2 60 T, arC cI m3 8 h9_4]) (by rw [eZ]) hP hD
                          exact ih_2  (k + 1) B9_4 h9_4 trivial (by omega) (fun a ha => (h8_4 a ha).trans (h8b a ha)) (by omega) _ _ _ hP hD hS (lv_sub hl [1, 0] rfl)
                        · skip
                          refine lv_aload_n hx hb dX7_mixRow_64 rfl (lv_at hl 0 rfl) ?_
                          refine lv_aload_n hx hb dX7_mixRow_65 rfl (lv_at hl 0 rfl) ?_
                          refine lv_iload_n hx hb dX7_mixRow_66 rfl (lv_at hl 1 rfl) ?_
                          refine lv_iload_n hx hb dX7_mixRow_67 rfl (lv_at hl 2 rfl) ?_
                          refine kcallVE (As := [.int (nI k), .int (nI w3)]) (rest := [.ref m0]) (Wn := fun u => [mdO m0 m1 m2 m3 th sv kp ln ca lt fi sd (hm (drpS (B 0) k) w3 (hm (whyS (B 0) k) 4 (hm (balS (B 0) k) 12 (rowsB (B 0) k hs)))), arC cI m1 1170 (enc u.1), arC cI m2 60 T, arC cI m3 8 u.2]) X (c_X7_dropped l D cI cZ cS cJ m0 m1 m2 m3 th sv kp ln ca lt fi sd (hm (drpS (B 0) k) w3 (hm (whyS (B 0) k) 4 (hm (balS (B 0) k) 12 (rowsB (B 0) k hs)))) B3 T h3 k w3 (by omega) (by rw [h8b 0 (by decide)]; exact hG) (by rw [h8b 0 (by decide)]; exact h6) (by omega)) (cwV 2 hts gX7_mixRow_X7_dropped rfl rfl rfl (by decide +kernel) ⟨Nat.le_of_ble_eq_true rfl, Nat.le_of_ble_eq_true rfl⟩) hK hP hD hS hA [0, 1, 2, 3] rfl (by decide +kernel) (fun _ => rfl) (fun _ => rfl) (fun _ => rfl) 0 7 rfl rfl rfl hl.1 rfl (Nat.le_of_ble_eq_true rfl) dX7_mixRow_68 ⟨Nat.le_of_ble_eq_true rfl, Nat.le_of_ble_eq_true rfl⟩ (fun uu H locs hu hP hD hS => ?_)
                          obtain ⟨B9_5, h9_5⟩ := uu
                          have h8_5 := hu
                          have hP : va_P D vwCl (List.flatten [mdO m0 m1 m2 m3 th sv kp ln ca lt fi sd (hm (drpS (B 0) k) w3 (hm (whyS (B 0) k) 4 (hm (balS (B 0) k) 12 (rowsB (B 0) k hs)))), arC cI m1 1170 (enc B9_5), arC cI m2 60 T, arC cI m3 8 h9_5]) _ := hP
                          have hD : va_D A (List.flatten [mdO m0 m1 m2 m3 th sv kp ln ca lt fi sd (hm (drpS (B 0) k) w3 (hm (whyS (B 0) k) 4 (hm (balS (B 0) k) 12 (rowsB (B 0) k hs)))), arC cI m1 1170 (enc B9_5), arC cI m2 60 T, arC cI m3 8 h9_5]) := hD
                          refine lv_eqi (y := drpS (B 0) k w3) (by rw [h8b 0 (by decide)]) ?_
                          refine lv_i2l (v := (drpS (B 0) k w3).toInt64) hx hb dX7_mixRow_71 rfl ?_
                          refine kcallV (As := [.long ((drpS (B 0) k w3).toInt64)]) (rest := []) (Wn := [mdO m0 m1 m2 m3 th sv kp ln ca lt fi sd ((31 * (hm (drpS (B 0) k) w3 (hm (whyS (B 0) k) 4 (hm (balS (B 0) k) 12 (rowsB (B 0) k hs))))) + ((drpS (B 0) k w3).toInt64)), arC cI m1 1170 (enc B9_5), arC cI m2 60 T, arC cI m3 8 h9_5]) X (c_X7_mix l D cI cZ cS cJ m0 m1 m2 m3 th sv kp ln ca lt fi sd (hm (drpS (B 0) k) w3 (hm (whyS (B 0) k) 4 (hm (balS (B 0) k) 12 (rowsB (B 0) k hs)))) B9_5 T h9_5 ((drpS (B 0) k w3).toInt64)) (cwV 1 hts gX7_mixRow_X7_mix rfl rfl rfl (by decide +kernel) ⟨Nat.le_of_ble_eq_true rfl, Nat.le_of_ble_eq_true rfl⟩) hK hP hD hS hA [0, 1, 2, 3] rfl (by decide +kernel) rfl rfl rfl 0 7 rfl rfl rfl hl.1 rfl (Nat.le_of_ble_eq_true rfl) dX7_mixRow_72 ⟨Nat.le_of_ble_eq_true rfl, Nat.le_of_ble_eq_true rfl⟩ (fun H locs hP hD hS => ?_)
                          refine lv_iinc (v := nI (w3 + 1)) (lv' := [(2, .int (nI (w3 + 1))), (0, .ref m0), (1, .int (nI k))]) hx hb dX7_mixRow_75 hl (k := 2) rfl (nI_add _ _) (by decide) rfl (fun ls hl => ?_)
                          refine lv_goto (tgt := 59) hx hb dX7_mixRow_78 (by decide) ?_
                          have eZ : (31 * (hm (drpS (B 0) k) w3 (hm (whyS (B 0) k) 4 (hm (balS (B 0) k) 12 (rowsB (B 0) k hs))))) + ((drpS (B 0) k w3).toInt64) = hm (drpS (B 0) k) (w3 + 1) (hm (whyS (B 0) k) 4 (hm (balS (B 0) k) 12 (rowsB (B 0) k hs))) := hm_s _ _ _
                          obtain ⟨hP, hD⟩ := PD_re (wn := List.flatten [mdO m0 m1 m2 m3 th sv kp ln ca lt fi sd (hm (drpS (B 0) k) (w3 + 1) (hm (whyS (B 0) k) 4 (hm (balS (B 0) k) 12 (rowsB (B 0) k hs)))), arC cI m1 1170 (enc B9_5), arC cI m2 60 T, arC cI m3 8 h9_5]) (by rw [eZ]) hP hD
                          exact ih_59  (w3 + 1) h9_5 B9_5 trivial (by omega) (fun a ha => (h8_5 a ha).trans (h8b a ha)) (by omega) _ _ _ hP hD hS (lv_sub hl [1, 2, 0] rfl)
                    have eZ : hm (whyS (B 0) k) 4 (hm (balS (B 0) k) 12 (rowsB (B 0) k hs)) = hm (drpS (B 0) k) 0 (hm (whyS (B 0) k) 4 (hm (balS (B 0) k) 12 (rowsB (B 0) k hs))) := hm_0 _ _
                    obtain ⟨hP, hD⟩ := PD_re (wn := List.flatten [mdO m0 m1 m2 m3 th sv kp ln ca lt fi sd (hm (drpS (B 0) k) 0 (hm (whyS (B 0) k) 4 (hm (balS (B 0) k) 12 (rowsB (B 0) k hs)))), arC cI m1 1170 (enc BB), arC cI m2 60 T, arC cI m3 8 h2]) (congrArg (fun zZ => List.flatten [mdO m0 m1 m2 m3 th sv kp ln ca lt fi sd zZ, arC cI m1 1170 (enc BB), arC cI m2 60 T, arC cI m3 8 h2]) eZ) hP hD
                    exact lp_59 (3 - 0 + 1) 0 h2 BB trivial (by omega) h8 (Nat.lt_succ_self _) _ _ _ hP hD hS (lv_sub hl [1, 2, 0] rfl)
                  · skip
                    refine lv_aload_n hx hb dX7_mixRow_40 rfl (lv_at hl 0 rfl) ?_
                    refine lv_aload_n hx hb dX7_mixRow_41 rfl (lv_at hl 0 rfl) ?_
                    refine lv_iload_n hx hb dX7_mixRow_42 rfl (lv_at hl 1 rfl) ?_
                    refine lv_iload_n hx hb dX7_mixRow_43 rfl (lv_at hl 2 rfl) ?_
                    refine kcallVE (As := [.int (nI k), .int (nI w2)]) (rest := [.ref m0]) (Wn := fun u => [mdO m0 m1 m2 m3 th sv kp ln ca lt fi sd (hm (whyS (B 0) k) w2 (hm (balS (B 0) k) 12 (rowsB (B 0) k hs))), arC cI m1 1170 (enc BB), arC cI m2 60 T, arC cI m3 8 u]) X (c_X7_reason l D cI cZ cS cJ m0 m1 m2 m3 th sv kp ln ca lt fi sd (hm (whyS (B 0) k) w2 (hm (balS (B 0) k) 12 (rowsB (B 0) k hs))) BB T h2 k w2 (by omega) (by rw [h8 0 (by decide)]; exact hG) (by rw [h8 0 (by decide)]; exact h6) (by omega) (fun q => absurd q (by omega))) (cwV 2 hts gX7_mixRow_X7_reason rfl rfl rfl (by decide +kernel) ⟨Nat.le_of_ble_eq_true rfl, Nat.le_of_ble_eq_true rfl⟩) hK hP hD hS hA [0, 1, 2, 3] rfl (by decide +kernel) (fun _ => rfl) (fun _ => rfl) (fun _ => rfl) 0 7 rfl rfl rfl hl.1 rfl (Nat.le_of_ble_eq_true rfl) dX7_mixRow_44 ⟨Nat.le_of_ble_eq_true rfl, Nat.le_of_ble_eq_true rfl⟩ (fun h9_6 H locs hu hP hD hS => ?_)
                    have hP : va_P D vwCl (List.flatten [mdO m0 m1 m2 m3 th sv kp ln ca lt fi sd (hm (whyS (B 0) k) w2 (hm (balS (B 0) k) 12 (rowsB (B 0) k hs))), arC cI m1 1170 (enc BB), arC cI m2 60 T, arC cI m3 8 h9_6]) _ := hP
                    have hD : va_D A (List.flatten [mdO m0 m1 m2 m3 th sv kp ln ca lt fi sd (hm (whyS (B 0) k) w2 (hm (balS (B 0) k) 12 (rowsB (B 0) k hs))), arC cI m1 1170 (enc BB), arC cI m2 60 T, arC cI m3 8 h9_6]) := hD
                    refine lv_eqi (y := whyS (B 0) k w2) (by rw [h8 0 (by decide)]) ?_
                    refine lv_i2l (v := (whyS (B 0) k w2).toInt64) hx hb dX7_mixRow_47 rfl ?_
                    refine kcallV (As := [.long ((whyS (B 0) k w2).toInt64)]) (rest := []) (Wn := [mdO m0 m1 m2 m3 th sv kp ln ca lt fi sd ((31 * (hm (whyS (B 0) k) w2 (hm (balS (B 0) k) 12 (rowsB (B 0) k hs)))) + ((whyS (B 0) k w2).toInt64)), arC cI m1 1170 (enc BB), arC cI m2 60 T, arC cI m3 8 h9_6]) X (c_X7_mix l D cI cZ cS cJ m0 m1 m2 m3 th sv kp ln ca lt fi sd (hm (whyS (B 0) k) w2 (hm (balS (B 0) k) 12 (rowsB (B 0) k hs))) BB T h9_6 ((whyS (B 0) k w2).toInt64)) (cwV 1 hts gX7_mixRow_X7_mix rfl rfl rfl (by decide +kernel) ⟨Nat.le_of_ble_eq_true rfl, Nat.le_of_ble_eq_true rfl⟩) hK hP hD hS hA [0, 1, 2, 3] rfl (by decide +kernel) rfl rfl rfl 0 7 rfl rfl rfl hl.1 rfl (Nat.le_of_ble_eq_true rfl) dX7_mixRow_48 ⟨Nat.le_of_ble_eq_true rfl, Nat.le_of_ble_eq_true rfl⟩ (fun H locs hP hD hS => ?_)
                    refine lv_iinc (v := nI (w2 + 1)) (lv' := [(2, .int (nI (w2 + 1))), (0, .ref m0), (1, .int (nI k))]) hx hb dX7_mixRow_51 hl (k := 2) rfl (nI_add _ _) (by decide) rfl (fun ls hl => ?_)
                    refine lv_goto (tgt := 35) hx hb dX7_mixRow_54 (by decide) ?_
                    have eZ : (31 * (hm (whyS (B 0) k) w2 (hm (balS (B 0) k) 12 (rowsB (B 0) k hs)))) + ((whyS (B 0) k w2).toInt64) = hm (whyS (B 0) k) (w2 + 1) (hm (balS (B 0) k) 12 (rowsB (B 0) k hs)) := hm_s _ _ _
                    obtain ⟨hP, hD⟩ := PD_re (wn := List.flatten [mdO m0 m1 m2 m3 th sv kp ln ca lt fi sd (hm (whyS (B 0) k) (w2 + 1) (hm (balS (B 0) k) 12 (rowsB (B 0) k hs))), arC cI m1 1170 (enc BB), arC cI m2 60 T, arC cI m3 8 h9_6]) (by rw [eZ]) hP hD
                    exact ih_35  (w2 + 1) h9_6 trivial (by omega) (by omega) _ _ _ hP hD hS (lv_sub hl [1, 2, 0] rfl)
              have eZ : hm (balS (B 0) k) 12 (rowsB (B 0) k hs) = hm (whyS (B 0) k) 0 (hm (balS (B 0) k) 12 (rowsB (B 0) k hs)) := hm_0 _ _
              obtain ⟨hP, hD⟩ := PD_re (wn := List.flatten [mdO m0 m1 m2 m3 th sv kp ln ca lt fi sd (hm (whyS (B 0) k) 0 (hm (balS (B 0) k) 12 (rowsB (B 0) k hs))), arC cI m1 1170 (enc BB), arC cI m2 60 T, arC cI m3 8 h1]) (congrArg (fun zZ => List.flatten [mdO m0 m1 m2 m3 th sv kp ln ca lt fi sd zZ, arC cI m1 1170 (enc BB), arC cI m2 60 T, arC cI m3 8 h1]) eZ) hP hD
              exact lp_35 (4 - 0 + 1) 0 h1 trivial (by omega) (Nat.lt_succ_self _) _ _ _ hP hD hS (lv_sub hl [1, 2, 0] rfl)
            · skip
              refine lv_aload_n hx hb dX7_mixRow_16 rfl (lv_at hl 0 rfl) ?_
              refine lv_aload_n hx hb dX7_mixRow_17 rfl (lv_at hl 0 rfl) ?_
              refine lv_iload_n hx hb dX7_mixRow_18 rfl (lv_at hl 1 rfl) ?_
              refine lv_iload_n hx hb dX7_mixRow_19 rfl (lv_at hl 2 rfl) ?_
              refine kcallVE (As := [.int (nI k), .int (nI w1)]) (rest := [.ref m0]) (Wn := fun u => [mdO m0 m1 m2 m3 th sv kp ln ca lt fi sd (hm (balS (B 0) k) w1 (rowsB (B 0) k hs)), arC cI m1 1170 (enc BB), arC cI m2 60 T, arC cI m3 8 u]) X (c_X7_ofBalloon l D cI cZ cS cJ m0 m1 m2 m3 th sv kp ln ca lt fi sd (hm (balS (B 0) k) w1 (rowsB (B 0) k hs)) BB T h1 k w1 (by omega) (by rw [h8 0 (by decide)]; exact hG) (by rw [h8 0 (by decide)]; exact h6) (by omega)) (cwV 2 hts gX7_mixRow_X7_ofBalloon rfl rfl rfl (by decide +kernel) ⟨Nat.le_of_ble_eq_true rfl, Nat.le_of_ble_eq_true rfl⟩) hK hP hD hS hA [0, 1, 2, 3] rfl (by decide +kernel) (fun _ => rfl) (fun _ => rfl) (fun _ => rfl) 0 7 rfl rfl rfl hl.1 rfl (Nat.le_of_ble_eq_true rfl) dX7_mixRow_20 ⟨Nat.le_of_ble_eq_true rfl, Nat.le_of_ble_eq_true rfl⟩ (fun h9_7 H locs hu hP hD hS => ?_)
              have hP : va_P D vwCl (List.flatten [mdO m0 m1 m2 m3 th sv kp ln ca lt fi sd (hm (balS (B 0) k) w1 (rowsB (B 0) k hs)), arC cI m1 1170 (enc BB), arC cI m2 60 T, arC cI m3 8 h9_7]) _ := hP
              have hD : va_D A (List.flatten [mdO m0 m1 m2 m3 th sv kp ln ca lt fi sd (hm (balS (B 0) k) w1 (rowsB (B 0) k hs)), arC cI m1 1170 (enc BB), arC cI m2 60 T, arC cI m3 8 h9_7]) := hD
              refine lv_eqi (y := balS (B 0) k w1) (by rw [h8 0 (by decide)]) ?_
              refine lv_i2l (v := (balS (B 0) k w1).toInt64) hx hb dX7_mixRow_23 rfl ?_
              refine kcallV (As := [.long ((balS (B 0) k w1).toInt64)]) (rest := []) (Wn := [mdO m0 m1 m2 m3 th sv kp ln ca lt fi sd ((31 * (hm (balS (B 0) k) w1 (rowsB (B 0) k hs))) + ((balS (B 0) k w1).toInt64)), arC cI m1 1170 (enc BB), arC cI m2 60 T, arC cI m3 8 h9_7]) X (c_X7_mix l D cI cZ cS cJ m0 m1 m2 m3 th sv kp ln ca lt fi sd (hm (balS (B 0) k) w1 (rowsB (B 0) k hs)) BB T h9_7 ((balS (B 0) k w1).toInt64)) (cwV 1 hts gX7_mixRow_X7_mix rfl rfl rfl (by decide +kernel) ⟨Nat.le_of_ble_eq_true rfl, Nat.le_of_ble_eq_true rfl⟩) hK hP hD hS hA [0, 1, 2, 3] rfl (by decide +kernel) rfl rfl rfl 0 7 rfl rfl rfl hl.1 rfl (Nat.le_of_ble_eq_true rfl) dX7_mixRow_24 ⟨Nat.le_of_ble_eq_true rfl, Nat.le_of_ble_eq_true rfl⟩ (fun H locs hP hD hS => ?_)
              refine lv_iinc (v := nI (w1 + 1)) (lv' := [(2, .int (nI (w1 + 1))), (0, .ref m0), (1, .int (nI k))]) hx hb dX7_mixRow_27 hl (k := 2) rfl (nI_add _ _) (by decide) rfl (fun ls hl => ?_)
              refine lv_goto (tgt := 10) hx hb dX7_mixRow_30 (by decide) ?_
              have eZ : (31 * (hm (balS (B 0) k) w1 (rowsB (B 0) k hs))) + ((balS (B 0) k w1).toInt64) = hm (balS (B 0) k) (w1 + 1) (rowsB (B 0) k hs) := hm_s _ _ _
              obtain ⟨hP, hD⟩ := PD_re (wn := List.flatten [mdO m0 m1 m2 m3 th sv kp ln ca lt fi sd (hm (balS (B 0) k) (w1 + 1) (rowsB (B 0) k hs)), arC cI m1 1170 (enc BB), arC cI m2 60 T, arC cI m3 8 h9_7]) (by rw [eZ]) hP hD
              exact ih_10  (w1 + 1) h9_7 trivial (by omega) (by omega) _ _ _ hP hD hS (lv_sub hl [1, 2, 0] rfl)
        have eZ : rowsB (B 0) k hs = hm (balS (B 0) k) 0 (rowsB (B 0) k hs) := hm_0 _ _
        obtain ⟨hP, hD⟩ := PD_re (wn := List.flatten [mdO m0 m1 m2 m3 th sv kp ln ca lt fi sd (hm (balS (B 0) k) 0 (rowsB (B 0) k hs)), arC cI m1 1170 (enc BB), arC cI m2 60 T, arC cI m3 8 hh]) (congrArg (fun zZ => List.flatten [mdO m0 m1 m2 m3 th sv kp ln ca lt fi sd zZ, arC cI m1 1170 (enc BB), arC cI m2 60 T, arC cI m3 8 hh]) eZ) hP hD
        exact lp_10 (12 - 0 + 1) 0 hh trivial (by omega) (Nat.lt_succ_self _) _ _ _ hP hD hS (lv_sub hl [1, 2, 0] rfl)
  have hP : va_P D vwCl (List.flatten [mdO m0 m1 m2 m3 th sv kp ln ca lt fi sd (rowsB (B 0) 0 hs), arC cI m1 1170 (enc B), arC cI m2 60 T, arC cI m3 8 h]) _ := hP
  have hD : va_D A (List.flatten [mdO m0 m1 m2 m3 th sv kp ln ca lt fi sd (rowsB (B 0) 0 hs), arC cI m1 1170 (enc B), arC cI m2 60 T, arC cI m3 8 h]) := hD
  exact lp_2 (8 - 0 + 1) 0 B h trivial (by omega) (fun _ _ => rfl) (Nat.lt_succ_self _) _ _ _ hP hD hS (lv_sub hl [1, 0] rfl)

set_option maxHeartbeats 4000000 in
set_option maxRecDepth 100000 in
theorem c_X6_mixBalloon (l : Launch) (D : va_G) (cI cZ cS cJ : ClassId) (x0 : Nat) (p0 : Nat) (q0 : Nat) (t0 : Nat) (k0 : Nat) (f0 : Nat) (w0 : Int32) (a : Nat → Nat) (S : Nat → Nat → Int32) (k1 : Nat) (k2 : Nat) (k3 : Nat) (k4 : Nat) (k5 : Nat) (k6 : Nat) (k7 : Nat) (K : Nat → Nat → Int32) (f1 : Nat) (L : Nat → Int32) (v : Int32) (g0 : Nat) (h0 : Int64) (b : Nat) (hb8 : b < 8) (hG : GB S) (h6 : S 6 = ht S) : CE (U := (Nat → Nat → Int32)) l yX6_mixBalloon wsX6_mixBalloon ({ frames := 7, cells := 0, slots := 0, locals := 152 }) D (tyL cI cZ cS cJ) [.ref x0, .long h0, .int (nI b)] (List.flatten [rbC x0 (a 0) p0 q0 t0 k0 f0 w0, stO a (S 12 0) (S 12 1) (S 12 2) (S 12 3) (S 12 4) (S 12 5) (S 12 6) (S 12 7), flX cI cZ (a 1) (a 2) (a 3) (a 4) (a 5) (a 6) (a 7) (a 8) (S 0) (S 1) (S 2) (S 3) (S 4) (S 5) (S 6), ntX cI (a 9) (a 10) (a 11) (a 12) (S 7) (S 8) (S 9) (S 12 8), daX cI (a 13) (a 14) (S 10) (S 11), flX cI cZ k0 k1 k2 k3 k4 k5 k6 k7 (K 0) (K 1) (K 2) (K 3) (K 4) (K 5) (K 6), fcO f0 g0 f1 v, arC cI f1 8 L]) (fun u => True) (fun u => some (.long ((31 * (hm (drpS S b) 3 (hm (whyS S b) 4 (hm (balS S b) 12 h0)))) + ((L b).toInt64)))) (fun u => List.flatten [rbC x0 (a 0) p0 q0 t0 k0 f0 w0, stO a (S 12 0) (S 12 1) (S 12 2) (S 12 3) (S 12 4) (S 12 5) (S 12 6) (S 12 7), flX cI cZ (a 1) (a 2) (a 3) (a 4) (a 5) (a 6) (a 7) (a 8) (S 0) (S 1) (S 2) (S 3) (S 4) (S 5) (S 6), ntX cI (a 9) (a 10) (a 11) (a 12) (S 7) (S 8) (S 9) (S 12 8), daX cI (a 13) (a 14) (S 10) (S 11), flX cI cZ k0 k1 k2 k3 k4 k5 k6 k7 (u 0) (u 1) (u 2) (u 3) (u 4) (u 5) (u 6), fcO f0 g0 f1 v, arC cI f1 8 L]) 0 0 := by
  refine CE_long (cc := cX6_mixBalloon) (maxL := 7) (by decide) rfl (Nat.le_of_ble_eq_true rfl) ?_
  intro p e s m below meth c A ls Q X hK hP hD hS hA hl hend
  have X : CallFix p m c cX6_mixBalloon 7 s ([.ref x0, .long h0, .int (nI b)] : List Value).toArray wsX6_mixBalloon RX6 := X
  obtain ⟨hx, hb, hml, hown, hts⟩ := id X
  have hl : lv_has ls 7 [(0, .ref x0), (1, .long h0), (3, .int (nI b))] := hl
  have hinX1 : ∀ w ∈ u_ws RX1 TX1 3, w ∈ wsX6_mixBalloon := by decide +kernel
  have hinX6 : ∀ w ∈ u_ws RX6 TX6 7, w ∈ wsX6_mixBalloon := by decide +kernel
  refine lv_lload_n hx hb dX6_mixBalloon_0 rfl (lv_at hl 1 rfl) ?_
  refine lv_lstore (lv' := [(4, .long h0), (0, .ref x0), (1, .long h0), (3, .int (nI b))]) hx hb dX6_mixBalloon_1 hl (by decide) rfl (fun ls hl => ?_)
  refine lv_iconst (v := 0) hx hb dX6_mixBalloon_3 (by decide) ?_
  refine lv_istore (lv' := [(6, .int 0), (4, .long h0), (0, .ref x0), (1, .long h0), (3, .int (nI b))]) hx hb dX6_mixBalloon_4 hl (by decide) rfl (fun ls hl => ?_)
  have lp_6 : ∀ (nn : Nat) (w1 : Nat), True → (w1 ≤ 12) → 12 - w1 < nn → ∀ (H : Heap) (locs : List Loc) (ls : Array Slot), va_P D vwCl (List.flatten [rbC x0 (a 0) p0 q0 t0 k0 f0 w0, stO a (S 12 0) (S 12 1) (S 12 2) (S 12 3) (S 12 4) (S 12 5) (S 12 6) (S 12 7), flX cI cZ (a 1) (a 2) (a 3) (a 4) (a 5) (a 6) (a 7) (a 8) (S 0) (S 1) (S 2) (S 3) (S 4) (S 5) (S 6), ntX cI (a 9) (a 10) (a 11) (a 12) (S 7) (S 8) (S 9) (S 12 8), daX cI (a 13) (a 14) (S 10) (S 11), flX cI cZ k0 k1 k2 k3 k4 k5 k6 k7 (K 0) (K 1) (K 2) (K 3) (K 4) (K 5) (K 6), fcO f0 g0 f1 v, arC cI f1 8 L]) H → va_D A (List.flatten [rbC x0 (a 0) p0 q0 t0 k0 f0 w0, stO a (S 12 0) (S 12 1) (S 12 2) (S 12 3) (S 12 4) (S 12 5) (S 12 6) (S 12 7), flX cI cZ (a 1) (a 2) (a 3) (a 4) (a 5) (a 6) (a 7) (a 8) (S 0) (S 1) (S 2) (S 3) (S 4) (S 5) (S 6), ntX cI (a 9) (a 10) (a 11) (a 12) (S 7) (S 8) (S 9) (S 12 8), daX cI (a 13) (a 14) (S 10) (S 11), flX cI cZ k0 k1 k2 k3 k4 k5 k6 k7 (K 0) (K 1) (K 2) (K 3) (K 4) (K 5) (K 6), fcO f0 g0 f1 v, arC cI f1 8 L]) → va_S A s.heap H locs → lv_has ls 7 [(0, .ref x0), (3, .int (nI b)), (4, .long (hm (balS S b) w1 h0)), (6, .int (nI w1))] → W p l e ({ frames := 7, cells := 0, slots := 0, locals := 152 } : Room) s m ([.ref x0, .long h0, .int (nI b)] : List Value).toArray below meth c H locs 0 0 Q (F0 m 6 ls []) := by
    intro nn
    induction nn with
    | zero => intro w1 _ hw1 hmz; exact absurd hmz (Nat.not_lt_zero _)
    | succ nn ih_6 =>
      intro w1 _ hw1 hms H locs ls hP hD hS hl
      refine lv_iload hx hb dX6_mixBalloon_6 (lv_at hl 3 rfl) ?_
      refine lv_bipush (v := 11) hx hb dX6_mixBalloon_8 (by decide) ?_
      refine n_gt (i := w1) (j := 11) (tgt := 34) hx hb (by omega) (by omega) dX6_mixBalloon_10 (by decide) (fun c10 => ?_) (fun c10 => ?_)
      · skip
        obtain rfl : w1 = 12 := by omega
        have hP : va_P D vwCl (List.flatten [rbC x0 (a 0) p0 q0 t0 k0 f0 w0, stO a (S 12 0) (S 12 1) (S 12 2) (S 12 3) (S 12 4) (S 12 5) (S 12 6) (S 12 7), flX cI cZ (a 1) (a 2) (a 3) (a 4) (a 5) (a 6) (a 7) (a 8) (S 0) (S 1) (S 2) (S 3) (S 4) (S 5) (S 6), ntX cI (a 9) (a 10) (a 11) (a 12) (S 7) (S 8) (S 9) (S 12 8), daX cI (a 13) (a 14) (S 10) (S 11), flX cI cZ k0 k1 k2 k3 k4 k5 k6 k7 (K 0) (K 1) (K 2) (K 3) (K 4) (K 5) (K 6), fcO f0 g0 f1 v, arC cI f1 8 L]) _ := hP
        have hD : va_D A (List.flatten [rbC x0 (a 0) p0 q0 t0 k0 f0 w0, stO a (S 12 0) (S 12 1) (S 12 2) (S 12 3) (S 12 4) (S 12 5) (S 12 6) (S 12 7), flX cI cZ (a 1) (a 2) (a 3) (a 4) (a 5) (a 6) (a 7) (a 8) (S 0) (S 1) (S 2) (S 3) (S 4) (S 5) (S 6), ntX cI (a 9) (a 10) (a 11) (a 12) (S 7) (S 8) (S 9) (S 12 8), daX cI (a 13) (a 14) (S 10) (S 11), flX cI cZ k0 k1 k2 k3 k4 k5 k6 k7 (K 0) (K 1) (K 2) (K 3) (K 4) (K 5) (K 6), fcO f0 g0 f1 v, arC cI f1 8 L]) := hD
        have hl : lv_has ls 7 [(0, .ref x0), (3, .int (nI b)), (4, .long (hm (balS S b) 12 h0)), (6, .int (nI 12))] := hl
        refine lv_iconst (v := 0) hx hb dX6_mixBalloon_34 (by decide) ?_
        refine lv_istore (lv' := [(6, .int 0), (0, .ref x0), (3, .int (nI b)), (4, .long (hm (balS S b) 12 h0))]) hx hb dX6_mixBalloon_35 hl (by decide) rfl (fun ls hl => ?_)
        have lp_37 : ∀ (nn : Nat) (w2 : Nat), True → (w2 ≤ 4) → 4 - w2 < nn → ∀ (H : Heap) (locs : List Loc) (ls : Array Slot), va_P D vwCl (List.flatten [rbC x0 (a 0) p0 q0 t0 k0 f0 w0, stO a (S 12 0) (S 12 1) (S 12 2) (S 12 3) (S 12 4) (S 12 5) (S 12 6) (S 12 7), flX cI cZ (a 1) (a 2) (a 3) (a 4) (a 5) (a 6) (a 7) (a 8) (S 0) (S 1) (S 2) (S 3) (S 4) (S 5) (S 6), ntX cI (a 9) (a 10) (a 11) (a 12) (S 7) (S 8) (S 9) (S 12 8), daX cI (a 13) (a 14) (S 10) (S 11), flX cI cZ k0 k1 k2 k3 k4 k5 k6 k7 (K 0) (K 1) (K 2) (K 3) (K 4) (K 5) (K 6), fcO f0 g0 f1 v, arC cI f1 8 L]) H → va_D A (List.flatten [rbC x0 (a 0) p0 q0 t0 k0 f0 w0, stO a (S 12 0) (S 12 1) (S 12 2) (S 12 3) (S 12 4) (S 12 5) (S 12 6) (S 12 7), flX cI cZ (a 1) (a 2) (a 3) (a 4) (a 5) (a 6) (a 7) (a 8) (S 0) (S 1) (S 2) (S 3) (S 4) (S 5) (S 6), ntX cI (a 9) (a 10) (a 11) (a 12) (S 7) (S 8) (S 9) (S 12 8), daX cI (a 13) (a 14) (S 10) (S 11), flX cI cZ k0 k1 k2 k3 k4 k5 k6 k7 (K 0) (K 1) (K 2) (K 3) (K 4) (K 5) (K 6), fcO f0 g0 f1 v, arC cI f1 8 L]) → va_S A s.heap H locs → lv_has ls 7 [(0, .ref x0), (3, .int (nI b)), (4, .long (hm (whyS S b) w2 (hm (balS S b) 12 h0))), (6, .int (nI w2))] → W p l e ({ frames := 7, cells := 0, slots := 0, locals := 152 } : Room) s m ([.ref x0, .long h0, .int (nI b)] : List Value).toArray below meth c H locs 0 0 Q (F0 m 37 ls []) := by
          intro nn
          induction nn with
          | zero => intro w2 _ hw2 hmz; exact absurd hmz (Nat.not_lt_zero _)
          | succ nn ih_37 =>
            intro w2 _ hw2 hms H locs ls hP hD hS hl
            refine lv_iload hx hb dX6_mixBalloon_37 (lv_at hl 3 rfl) ?_
            refine lv_iconst (v := 3) hx hb dX6_mixBalloon_39 (by decide) ?_
            refine n_gt (i := w2) (j := 3) (tgt := 64) hx hb (by omega) (by omega) dX6_mixBalloon_40 (by decide) (fun c40 => ?_) (fun c40 => ?_)
            · skip
              obtain rfl : w2 = 4 := by omega
              have hP : va_P D vwCl (List.flatten [rbC x0 (a 0) p0 q0 t0 k0 f0 w0, stO a (S 12 0) (S 12 1) (S 12 2) (S 12 3) (S 12 4) (S 12 5) (S 12 6) (S 12 7), flX cI cZ (a 1) (a 2) (a 3) (a 4) (a 5) (a 6) (a 7) (a 8) (S 0) (S 1) (S 2) (S 3) (S 4) (S 5) (S 6), ntX cI (a 9) (a 10) (a 11) (a 12) (S 7) (S 8) (S 9) (S 12 8), daX cI (a 13) (a 14) (S 10) (S 11), flX cI cZ k0 k1 k2 k3 k4 k5 k6 k7 (K 0) (K 1) (K 2) (K 3) (K 4) (K 5) (K 6), fcO f0 g0 f1 v, arC cI f1 8 L]) _ := hP
              have hD : va_D A (List.flatten [rbC x0 (a 0) p0 q0 t0 k0 f0 w0, stO a (S 12 0) (S 12 1) (S 12 2) (S 12 3) (S 12 4) (S 12 5) (S 12 6) (S 12 7), flX cI cZ (a 1) (a 2) (a 3) (a 4) (a 5) (a 6) (a 7) (a 8) (S 0) (S 1) (S 2) (S 3) (S 4) (S 5) (S 6), ntX cI (a 9) (a 10) (a 11) (a 12) (S 7) (S 8) (S 9) (S 12 8), daX cI (a 13) (a 14) (S 10) (S 11), flX cI cZ k0 k1 k2 k3 k4 k5 k6 k7 (K 0) (K 1) (K 2) (K 3) (K 4) (K 5) (K 6), fcO f0 g0 f1 v, arC cI f1 8 L]) := hD
              have hl : lv_has ls 7 [(0, .ref x0), (3, .int (nI b)), (4, .long (hm (whyS S b) 4 (hm (balS S b) 12 h0))), (6, .int (nI 4))] := hl
              refine lv_iconst (v := 0) hx hb dX6_mixBalloon_64 (by decide) ?_
              refine lv_istore (lv' := [(6, .int 0), (0, .ref x0), (3, .int (nI b)), (4, .long (hm (whyS S b) 4 (hm (balS S b) 12 h0)))]) hx hb dX6_mixBalloon_65 hl (by decide) rfl (fun ls hl => ?_)
              have lp_67 : ∀ (nn : Nat) (w3 : Nat) (KK : Nat → Nat → Int32), True → (w3 ≤ 3) → 3 - w3 < nn → ∀ (H : Heap) (locs : List Loc) (ls : Array Slot), va_P D vwCl (List.flatten [rbC x0 (a 0) p0 q0 t0 k0 f0 w0, stO a (S 12 0) (S 12 1) (S 12 2) (S 12 3) (S 12 4) (S 12 5) (S 12 6) (S 12 7), flX cI cZ (a 1) (a 2) (a 3) (a 4) (a 5) (a 6) (a 7) (a 8) (S 0) (S 1) (S 2) (S 3) (S 4) (S 5) (S 6), ntX cI (a 9) (a 10) (a 11) (a 12) (S 7) (S 8) (S 9) (S 12 8), daX cI (a 13) (a 14) (S 10) (S 11), flX cI cZ k0 k1 k2 k3 k4 k5 k6 k7 (KK 0) (KK 1) (KK 2) (KK 3) (KK 4) (KK 5) (KK 6), fcO f0 g0 f1 v, arC cI f1 8 L]) H → va_D A (List.flatten [rbC x0 (a 0) p0 q0 t0 k0 f0 w0, stO a (S 12 0) (S 12 1) (S 12 2) (S 12 3) (S 12 4) (S 12 5) (S 12 6) (S 12 7), flX cI cZ (a 1) (a 2) (a 3) (a 4) (a 5) (a 6) (a 7) (a 8) (S 0) (S 1) (S 2) (S 3) (S 4) (S 5) (S 6), ntX cI (a 9) (a 10) (a 11) (a 12) (S 7) (S 8) (S 9) (S 12 8), daX cI (a 13) (a 14) (S 10) (S 11), flX cI cZ k0 k1 k2 k3 k4 k5 k6 k7 (KK 0) (KK 1) (KK 2) (KK 3) (KK 4) (KK 5) (KK 6), fcO f0 g0 f1 v, arC cI f1 8 L]) → va_S A s.heap H locs → lv_has ls 7 [(0, .ref x0), (3, .int (nI b)), (4, .long (hm (drpS S b) w3 (hm (whyS S b) 4 (hm (balS S b) 12 h0)))), (6, .int (nI w3))] → W p l e ({ frames := 7, cells := 0, slots := 0, locals := 152 } : Room) s m ([.ref x0, .long h0, .int (nI b)] : List Value).toArray below meth c H locs 0 0 Q (F0 m 67 ls []) := by
                intro nn
                induction nn with
                | zero => intro w3 KK _ hw3 hmz; exact absurd hmz (Nat.not_lt_zero _)
                | succ nn ih_67 =>
                  intro w3 KK _ hw3 hms H locs ls hP hD hS hl
                  refine lv_iload hx hb dX6_mixBalloon_67 (lv_at hl 3 rfl) ?_
                  refine lv_iconst (v := 2) hx hb dX6_mixBalloon_69 (by decide) ?_
                  refine n_gt (i := w3) (j := 2) (tgt := 94) hx hb (by omega) (by omega) dX6_mixBalloon_70 (by decide) (fun c70 => ?_) (fun c70 => ?_)
                  · skip
                    obtain rfl : w3 = 3 := by omega
                    have hP : va_P D vwCl (List.flatten [rbC x0 (a 0) p0 q0 t0 k0 f0 w0, stO a (S 12 0) (S 12 1) (S 12 2) (S 12 3) (S 12 4) (S 12 5) (S 12 6) (S 12 7), flX cI cZ (a 1) (a 2) (a 3) (a 4) (a 5) (a 6) (a 7) (a 8) (S 0) (S 1) (S 2) (S 3) (S 4) (S 5) (S 6), ntX cI (a 9) (a 10) (a 11) (a 12) (S 7) (S 8) (S 9) (S 12 8), daX cI (a 13) (a 14) (S 10) (S 11), flX cI cZ k0 k1 k2 k3 k4 k5 k6 k7 (KK 0) (KK 1) (KK 2) (KK 3) (KK 4) (KK 5) (KK 6), fcO f0 g0 f1 v, arC cI f1 8 L]) _ := hP
                    have hD : va_D A (List.flatten [rbC x0 (a 0) p0 q0 t0 k0 f0 w0, stO a (S 12 0) (S 12 1) (S 12 2) (S 12 3) (S 12 4) (S 12 5) (S 12 6) (S 12 7), flX cI cZ (a 1) (a 2) (a 3) (a 4) (a 5) (a 6) (a 7) (a 8) (S 0) (S 1) (S 2) (S 3) (S 4) (S 5) (S 6), ntX cI (a 9) (a 10) (a 11) (a 12) (S 7) (S 8) (S 9) (S 12 8), daX cI (a 13) (a 14) (S 10) (S 11), flX cI cZ k0 k1 k2 k3 k4 k5 k6 k7 (KK 0) (KK 1) (KK 2) (KK 3) (KK 4) (KK 5) (KK 6), fcO f0 g0 f1 v, arC cI f1 8 L]) := hD
                    have hl : lv_has ls 7 [(0, .ref x0), (3, .int (nI b)), (4, .long (hm (drpS S b) 3 (hm (whyS S b) 4 (hm (balS S b) 12 h0)))), (6, .int (nI 3))] := hl
                    refine lv_lload hx hb dX6_mixBalloon_94 (lv_at hl 2 rfl) ?_
                    refine lv_aload_n hx hb dX6_mixBalloon_96 rfl (lv_at hl 0 rfl) ?_
                    refine va_get (D := D) (ci := 6) (v := .ref f0) (C := RX6) (T := TX6) (N := 7) hx hb hts hinX6 hown hK hP 0 rfl rfl 6 (by decide) (hts (.fieldLink RX6 47 "RibbonBalloons" "forecast" "LRibbonBalloons$Forecast;") (by decide +kernel)) (fun _ h9 => h9) rfl dX6_mixBalloon_97 ?_
                    refine va_get (D := D) (ci := 1) (v := .ref f1) (C := RX1) (T := TX1) (N := 3) hx hb hts hinX1 hown hK hP 24 rfl rfl 1 (by decide) (hts (.fieldLink RX6 250 "RibbonBalloons$Forecast" "landings" "[I") (by decide +kernel)) (fun _ h9 => h9) rfl dX6_mixBalloon_100 ?_
                    refine lv_iload_n hx hb dX6_mixBalloon_103 rfl (lv_at hl 1 rfl) ?_
                    refine r_iald hx hb hK hP 25 0 b (f := L) rfl rfl (by omega) (by omega) dX6_mixBalloon_104 ?_
                    refine lv_i2l (v := (L b).toInt64) hx hb dX6_mixBalloon_105 rfl ?_
                    refine kcallS (As := [.long (hm (drpS S b) 3 (hm (whyS S b) 4 (hm (balS S b) 12 h0))), .long ((L b).toInt64)]) (rest := []) (Wn := [rbC x0 (a 0) p0 q0 t0 k0 f0 w0, stO a (S 12 0) (S 12 1) (S 12 2) (S 12 3) (S 12 4) (S 12 5) (S 12 6) (S 12 7), flX cI cZ (a 1) (a 2) (a 3) (a 4) (a 5) (a 6) (a 7) (a 8) (S 0) (S 1) (S 2) (S 3) (S 4) (S 5) (S 6), ntX cI (a 9) (a 10) (a 11) (a 12) (S 7) (S 8) (S 9) (S 12 8), daX cI (a 13) (a 14) (S 10) (S 11), flX cI cZ k0 k1 k2 k3 k4 k5 k6 k7 (KK 0) (KK 1) (KK 2) (KK 3) (KK 4) (KK 5) (KK 6), fcO f0 g0 f1 v, arC cI f1 8 L]) X (c_X6_mix l D cI cZ cS cJ (hm (drpS S b) 3 (hm (whyS S b) 4 (hm (balS S b) 12 h0))) ((L b).toInt64)) (va_cwS 2 hts gX6_mixBalloon_X6_mix rfl rfl rfl (by decide +kernel) ⟨Nat.le_of_ble_eq_true rfl, Nat.le_of_ble_eq_true rfl⟩) hK hP hD hS hA [] rfl (by decide +kernel) rfl rfl rfl rfl hl.1 rfl (Nat.le_of_ble_eq_true rfl) dX6_mixBalloon_106 ⟨Nat.le_of_ble_eq_true rfl, Nat.le_of_ble_eq_true rfl⟩ (fun H locs hP hD hS => ?_)
                    refine hend (KK) _ _ _ _ _ trivial ?_ hP hD hS dX6_mixBalloon_109
                    exact rfl
                  · skip
                    refine lv_lload hx hb dX6_mixBalloon_73 (lv_at hl 2 rfl) ?_
                    refine lv_aload_n hx hb dX6_mixBalloon_75 rfl (lv_at hl 0 rfl) ?_
                    refine lv_iload_n hx hb dX6_mixBalloon_76 rfl (lv_at hl 1 rfl) ?_
                    refine lv_iload hx hb dX6_mixBalloon_77 (lv_at hl 3 rfl) ?_
                    refine kcallV (As := [.int (nI b), .int (nI w3)]) (rest := [.long (hm (drpS S b) w3 (hm (whyS S b) 4 (hm (balS S b) 12 h0)))]) (Wn := [rbC x0 (a 0) p0 q0 t0 k0 f0 w0, stO a (S 12 0) (S 12 1) (S 12 2) (S 12 3) (S 12 4) (S 12 5) (S 12 6) (S 12 7), flX cI cZ (a 1) (a 2) (a 3) (a 4) (a 5) (a 6) (a 7) (a 8) (S 0) (S 1) (S 2) (S 3) (S 4) (S 5) (S 6), ntX cI (a 9) (a 10) (a 11) (a 12) (S 7) (S 8) (S 9) (S 12 8), daX cI (a 13) (a 14) (S 10) (S 11), flX cI cZ k0 k1 k2 k3 k4 k5 k6 k7 ((drpK S KK b) 0) ((drpK S KK b) 1) ((drpK S KK b) 2) ((drpK S KK b) 3) ((drpK S KK b) 4) ((drpK S KK b) 5) ((drpK S KK b) 6), fcO f0 g0 f1 v, arC cI f1 8 L]) X (c_X6_ifDropped l D cI cZ cS cJ x0 p0 q0 t0 k0 f0 w0 a S k1 k2 k3 k4 k5 k6 k7 KK b w3 (by omega) (GB_T hG) (by omega)) (cwV 2 hts gX6_mixBalloon_X6_ifDropped rfl rfl rfl (by decide +kernel) ⟨Nat.le_of_ble_eq_true rfl, Nat.le_of_ble_eq_true rfl⟩) hK hP hD hS hA [0, 1, 2, 3, 4, 5] rfl (by decide +kernel) rfl rfl rfl 0 6 rfl rfl rfl hl.1 rfl (Nat.le_of_ble_eq_true rfl) dX6_mixBalloon_79 ⟨Nat.le_of_ble_eq_true rfl, Nat.le_of_ble_eq_true rfl⟩ (fun H locs hP hD hS => ?_)
                    refine lv_i2l (v := (drpS S b w3).toInt64) hx hb dX6_mixBalloon_82 rfl ?_
                    refine kcallS (As := [.long (hm (drpS S b) w3 (hm (whyS S b) 4 (hm (balS S b) 12 h0))), .long ((drpS S b w3).toInt64)]) (rest := []) (Wn := [rbC x0 (a 0) p0 q0 t0 k0 f0 w0, stO a (S 12 0) (S 12 1) (S 12 2) (S 12 3) (S 12 4) (S 12 5) (S 12 6) (S 12 7), flX cI cZ (a 1) (a 2) (a 3) (a 4) (a 5) (a 6) (a 7) (a 8) (S 0) (S 1) (S 2) (S 3) (S 4) (S 5) (S 6), ntX cI (a 9) (a 10) (a 11) (a 12) (S 7) (S 8) (S 9) (S 12 8), daX cI (a 13) (a 14) (S 10) (S 11), flX cI cZ k0 k1 k2 k3 k4 k5 k6 k7 ((drpK S KK b) 0) ((drpK S KK b) 1) ((drpK S KK b) 2) ((drpK S KK b) 3) ((drpK S KK b) 4) ((drpK S KK b) 5) ((drpK S KK b) 6), fcO f0 g0 f1 v, arC cI f1 8 L]) X (c_X6_mix l D cI cZ cS cJ (hm (drpS S b) w3 (hm (whyS S b) 4 (hm (balS S b) 12 h0))) ((drpS S b w3).toInt64)) (va_cwS 2 hts gX6_mixBalloon_X6_mix rfl rfl rfl (by decide +kernel) ⟨Nat.le_of_ble_eq_true rfl, Nat.le_of_ble_eq_true rfl⟩) hK hP hD hS hA [] rfl (by decide +kernel) rfl rfl rfl rfl hl.1 rfl (Nat.le_of_ble_eq_true rfl) dX6_mixBalloon_83 ⟨Nat.le_of_ble_eq_true rfl, Nat.le_of_ble_eq_true rfl⟩ (fun H locs hP hD hS => ?_)
                    refine lv_lstore (lv' := [(4, .long ((31 * (hm (drpS S b) w3 (hm (whyS S b) 4 (hm (balS S b) 12 h0)))) + ((drpS S b w3).toInt64))), (0, .ref x0), (3, .int (nI b)), (6, .int (nI w3))]) hx hb dX6_mixBalloon_86 hl (by decide) rfl (fun ls hl => ?_)
                    refine lv_iinc (v := nI (w3 + 1)) (lv' := [(6, .int (nI (w3 + 1))), (4, .long ((31 * (hm (drpS S b) w3 (hm (whyS S b) 4 (hm (balS S b) 12 h0)))) + ((drpS S b w3).toInt64))), (0, .ref x0), (3, .int (nI b))]) hx hb dX6_mixBalloon_88 hl (k := 3) rfl (nI_add _ _) (by decide) rfl (fun ls hl => ?_)
                    refine lv_goto (tgt := 67) hx hb dX6_mixBalloon_91 (by decide) ?_
                    have hl : lv_has ls 7 [(6, .int (nI (w3 + 1))), (4, .long (hm (drpS S b) (w3 + 1) (hm (whyS S b) 4 (hm (balS S b) 12 h0)))), (0, .ref x0), (3, .int (nI b))] := lv_reg hl 1 (x := .long ((31 * (hm (drpS S b) w3 (hm (whyS S b) 4 (hm (balS S b) 12 h0)))) + ((drpS S b w3).toInt64))) (y := .long (hm (drpS S b) (w3 + 1) (hm (whyS S b) 4 (hm (balS S b) 12 h0)))) rfl (congrArg Value.long (hm_s _ _ _)) rfl
                    exact ih_67  (w3 + 1) (drpK S KK b) trivial (by omega) (by omega) _ _ _ hP hD hS (lv_sub hl [2, 3, 1, 0] rfl)
              have hl : lv_has ls 7 [(6, .int 0), (0, .ref x0), (3, .int (nI b)), (4, .long (hm (drpS S b) 0 (hm (whyS S b) 4 (hm (balS S b) 12 h0))))] := lv_reg hl 3 (x := .long (hm (whyS S b) 4 (hm (balS S b) 12 h0))) (y := .long (hm (drpS S b) 0 (hm (whyS S b) 4 (hm (balS S b) 12 h0)))) rfl (congrArg Value.long (hm_0 _ _)) rfl
              exact lp_67 (3 - 0 + 1) 0 K trivial (by omega) (Nat.lt_succ_self _) _ _ _ hP hD hS (lv_sub hl [1, 2, 3, 0] rfl)
            · skip
              refine lv_lload hx hb dX6_mixBalloon_43 (lv_at hl 2 rfl) ?_
              refine lv_aload_n hx hb dX6_mixBalloon_45 rfl (lv_at hl 0 rfl) ?_
              refine lv_iload_n hx hb dX6_mixBalloon_46 rfl (lv_at hl 1 rfl) ?_
              refine lv_iload hx hb dX6_mixBalloon_47 (lv_at hl 3 rfl) ?_
              refine kcallV (As := [.int (nI b), .int (nI w2)]) (rest := [.long (hm (whyS S b) w2 (hm (balS S b) 12 h0))]) (Wn := [rbC x0 (a 0) p0 q0 t0 k0 f0 w0, stO a (S 12 0) (S 12 1) (S 12 2) (S 12 3) (S 12 4) (S 12 5) (S 12 6) (S 12 7), flX cI cZ (a 1) (a 2) (a 3) (a 4) (a 5) (a 6) (a 7) (a 8) (S 0) (S 1) (S 2) (S 3) (S 4) (S 5) (S 6), ntX cI (a 9) (a 10) (a 11) (a 12) (S 7) (S 8) (S 9) (S 12 8), daX cI (a 13) (a 14) (S 10) (S 11), flX cI cZ k0 k1 k2 k3 k4 k5 k6 k7 (K 0) (K 1) (K 2) (K 3) (K 4) (K 5) (K 6), fcO f0 g0 f1 v, arC cI f1 8 L]) X (c_X6_why l D cI cZ cS cJ x0 p0 q0 t0 k0 f0 w0 a S b w2 (by omega) (fun q => absurd q (by omega)) (by omega)) (cwV 2 hts gX6_mixBalloon_X6_why rfl rfl rfl (by decide +kernel) ⟨Nat.le_of_ble_eq_true rfl, Nat.le_of_ble_eq_true rfl⟩) hK hP hD hS hA [0, 1, 2, 3, 4] rfl (by decide +kernel) rfl rfl rfl 0 6 rfl rfl rfl hl.1 rfl (Nat.le_of_ble_eq_true rfl) dX6_mixBalloon_49 ⟨Nat.le_of_ble_eq_true rfl, Nat.le_of_ble_eq_true rfl⟩ (fun H locs hP hD hS => ?_)
              refine lv_i2l (v := (whyS S b w2).toInt64) hx hb dX6_mixBalloon_52 rfl ?_
              refine kcallS (As := [.long (hm (whyS S b) w2 (hm (balS S b) 12 h0)), .long ((whyS S b w2).toInt64)]) (rest := []) (Wn := [rbC x0 (a 0) p0 q0 t0 k0 f0 w0, stO a (S 12 0) (S 12 1) (S 12 2) (S 12 3) (S 12 4) (S 12 5) (S 12 6) (S 12 7), flX cI cZ (a 1) (a 2) (a 3) (a 4) (a 5) (a 6) (a 7) (a 8) (S 0) (S 1) (S 2) (S 3) (S 4) (S 5) (S 6), ntX cI (a 9) (a 10) (a 11) (a 12) (S 7) (S 8) (S 9) (S 12 8), daX cI (a 13) (a 14) (S 10) (S 11), flX cI cZ k0 k1 k2 k3 k4 k5 k6 k7 (K 0) (K 1) (K 2) (K 3) (K 4) (K 5) (K 6), fcO f0 g0 f1 v, arC cI f1 8 L]) X (c_X6_mix l D cI cZ cS cJ (hm (whyS S b) w2 (hm (balS S b) 12 h0)) ((whyS S b w2).toInt64)) (va_cwS 2 hts gX6_mixBalloon_X6_mix rfl rfl rfl (by decide +kernel) ⟨Nat.le_of_ble_eq_true rfl, Nat.le_of_ble_eq_true rfl⟩) hK hP hD hS hA [] rfl (by decide +kernel) rfl rfl rfl rfl hl.1 rfl (Nat.le_of_ble_eq_true rfl) dX6_mixBalloon_53 ⟨Nat.le_of_ble_eq_true rfl, Nat.le_of_ble_eq_true rfl⟩ (fun H locs hP hD hS => ?_)
              refine lv_lstore (lv' := [(4, .long ((31 * (hm (whyS S b) w2 (hm (balS S b) 12 h0))) + ((whyS S b w2).toInt64))), (0, .ref x0), (3, .int (nI b)), (6, .int (nI w2))]) hx hb dX6_mixBalloon_56 hl (by decide) rfl (fun ls hl => ?_)
              refine lv_iinc (v := nI (w2 + 1)) (lv' := [(6, .int (nI (w2 + 1))), (4, .long ((31 * (hm (whyS S b) w2 (hm (balS S b) 12 h0))) + ((whyS S b w2).toInt64))), (0, .ref x0), (3, .int (nI b))]) hx hb dX6_mixBalloon_58 hl (k := 3) rfl (nI_add _ _) (by decide) rfl (fun ls hl => ?_)
              refine lv_goto (tgt := 37) hx hb dX6_mixBalloon_61 (by decide) ?_
              have hl : lv_has ls 7 [(6, .int (nI (w2 + 1))), (4, .long (hm (whyS S b) (w2 + 1) (hm (balS S b) 12 h0))), (0, .ref x0), (3, .int (nI b))] := lv_reg hl 1 (x := .long ((31 * (hm (whyS S b) w2 (hm (balS S b) 12 h0))) + ((whyS S b w2).toInt64))) (y := .long (hm (whyS S b) (w2 + 1) (hm (balS S b) 12 h0))) rfl (congrArg Value.long (hm_s _ _ _)) rfl
              exact ih_37  (w2 + 1) trivial (by omega) (by omega) _ _ _ hP hD hS (lv_sub hl [2, 3, 1, 0] rfl)
        have hl : lv_has ls 7 [(6, .int 0), (0, .ref x0), (3, .int (nI b)), (4, .long (hm (whyS S b) 0 (hm (balS S b) 12 h0)))] := lv_reg hl 3 (x := .long (hm (balS S b) 12 h0)) (y := .long (hm (whyS S b) 0 (hm (balS S b) 12 h0))) rfl (congrArg Value.long (hm_0 _ _)) rfl
        exact lp_37 (4 - 0 + 1) 0 trivial (by omega) (Nat.lt_succ_self _) _ _ _ hP hD hS (lv_sub hl [1, 2, 3, 0] rfl)
      · skip
        refine lv_lload hx hb dX6_mixBalloon_13 (lv_at hl 2 rfl) ?_
        refine lv_aload_n hx hb dX6_mixBalloon_15 rfl (lv_at hl 0 rfl) ?_
        refine lv_iload_n hx hb dX6_mixBalloon_16 rfl (lv_at hl 1 rfl) ?_
        refine lv_iload hx hb dX6_mixBalloon_17 (lv_at hl 3 rfl) ?_
        refine kcallV (As := [.int (nI b), .int (nI w1)]) (rest := [.long (hm (balS S b) w1 h0)]) (Wn := [rbC x0 (a 0) p0 q0 t0 k0 f0 w0, stO a (S 12 0) (S 12 1) (S 12 2) (S 12 3) (S 12 4) (S 12 5) (S 12 6) (S 12 7), flX cI cZ (a 1) (a 2) (a 3) (a 4) (a 5) (a 6) (a 7) (a 8) (S 0) (S 1) (S 2) (S 3) (S 4) (S 5) (S 6), ntX cI (a 9) (a 10) (a 11) (a 12) (S 7) (S 8) (S 9) (S 12 8), daX cI (a 13) (a 14) (S 10) (S 11), flX cI cZ k0 k1 k2 k3 k4 k5 k6 k7 (K 0) (K 1) (K 2) (K 3) (K 4) (K 5) (K 6), fcO f0 g0 f1 v, arC cI f1 8 L]) X (c_X6_balloon l D cI cZ cS cJ x0 p0 q0 t0 k0 f0 w0 a S b w1 (by omega) (by omega)) (cwV 2 hts gX6_mixBalloon_X6_balloon rfl rfl rfl (by decide +kernel) ⟨Nat.le_of_ble_eq_true rfl, Nat.le_of_ble_eq_true rfl⟩) hK hP hD hS hA [0, 1, 2, 3, 4] rfl (by decide +kernel) rfl rfl rfl 0 6 rfl rfl rfl hl.1 rfl (Nat.le_of_ble_eq_true rfl) dX6_mixBalloon_19 ⟨Nat.le_of_ble_eq_true rfl, Nat.le_of_ble_eq_true rfl⟩ (fun H locs hP hD hS => ?_)
        refine lv_i2l (v := (balS S b w1).toInt64) hx hb dX6_mixBalloon_22 rfl ?_
        refine kcallS (As := [.long (hm (balS S b) w1 h0), .long ((balS S b w1).toInt64)]) (rest := []) (Wn := [rbC x0 (a 0) p0 q0 t0 k0 f0 w0, stO a (S 12 0) (S 12 1) (S 12 2) (S 12 3) (S 12 4) (S 12 5) (S 12 6) (S 12 7), flX cI cZ (a 1) (a 2) (a 3) (a 4) (a 5) (a 6) (a 7) (a 8) (S 0) (S 1) (S 2) (S 3) (S 4) (S 5) (S 6), ntX cI (a 9) (a 10) (a 11) (a 12) (S 7) (S 8) (S 9) (S 12 8), daX cI (a 13) (a 14) (S 10) (S 11), flX cI cZ k0 k1 k2 k3 k4 k5 k6 k7 (K 0) (K 1) (K 2) (K 3) (K 4) (K 5) (K 6), fcO f0 g0 f1 v, arC cI f1 8 L]) X (c_X6_mix l D cI cZ cS cJ (hm (balS S b) w1 h0) ((balS S b w1).toInt64)) (va_cwS 2 hts gX6_mixBalloon_X6_mix rfl rfl rfl (by decide +kernel) ⟨Nat.le_of_ble_eq_true rfl, Nat.le_of_ble_eq_true rfl⟩) hK hP hD hS hA [] rfl (by decide +kernel) rfl rfl rfl rfl hl.1 rfl (Nat.le_of_ble_eq_true rfl) dX6_mixBalloon_23 ⟨Nat.le_of_ble_eq_true rfl, Nat.le_of_ble_eq_true rfl⟩ (fun H locs hP hD hS => ?_)
        refine lv_lstore (lv' := [(4, .long ((31 * (hm (balS S b) w1 h0)) + ((balS S b w1).toInt64))), (0, .ref x0), (3, .int (nI b)), (6, .int (nI w1))]) hx hb dX6_mixBalloon_26 hl (by decide) rfl (fun ls hl => ?_)
        refine lv_iinc (v := nI (w1 + 1)) (lv' := [(6, .int (nI (w1 + 1))), (4, .long ((31 * (hm (balS S b) w1 h0)) + ((balS S b w1).toInt64))), (0, .ref x0), (3, .int (nI b))]) hx hb dX6_mixBalloon_28 hl (k := 3) rfl (nI_add _ _) (by decide) rfl (fun ls hl => ?_)
        refine lv_goto (tgt := 6) hx hb dX6_mixBalloon_31 (by decide) ?_
        have hl : lv_has ls 7 [(6, .int (nI (w1 + 1))), (4, .long (hm (balS S b) (w1 + 1) h0)), (0, .ref x0), (3, .int (nI b))] := lv_reg hl 1 (x := .long ((31 * (hm (balS S b) w1 h0)) + ((balS S b w1).toInt64))) (y := .long (hm (balS S b) (w1 + 1) h0)) rfl (congrArg Value.long (hm_s _ _ _)) rfl
        exact ih_6  (w1 + 1) trivial (by omega) (by omega) _ _ _ hP hD hS (lv_sub hl [2, 3, 1, 0] rfl)
  have hl : lv_has ls 7 [(6, .int 0), (4, .long (hm (balS S b) 0 h0)), (0, .ref x0), (1, .long h0), (3, .int (nI b))] := lv_reg hl 1 (x := .long h0) (y := .long (hm (balS S b) 0 h0)) rfl (congrArg Value.long (hm_0 _ _)) rfl
  exact lp_6 (12 - 0 + 1) 0 trivial (by omega) (Nat.lt_succ_self _) _ _ _ hP hD hS (lv_sub hl [2, 4, 1, 0] rfl)

set_option maxHeartbeats 4000000 in
set_option maxRecDepth 100000 in
theorem c_X6_mixRibbon (l : Launch) (D : va_G) (cI cZ cS cJ : ClassId) (x0 : Nat) (p0 : Nat) (q0 : Nat) (t0 : Nat) (k0 : Nat) (f0 : Nat) (w0 : Int32) (a : Nat → Nat) (S : Nat → Nat → Int32) (h0 : Int64) (r : Nat) (hr7 : r < 7) : C0 l yX6_mixRibbon wsX6_mixRibbon ({ frames := 6, cells := 0, slots := 0, locals := 131 }) D (tyL cI cZ cS cJ) [.ref x0, .long h0, .int (nI r)] (List.flatten [rbC x0 (a 0) p0 q0 t0 k0 f0 w0, stO a (S 12 0) (S 12 1) (S 12 2) (S 12 3) (S 12 4) (S 12 5) (S 12 6) (S 12 7), flX cI cZ (a 1) (a 2) (a 3) (a 4) (a 5) (a 6) (a 7) (a 8) (S 0) (S 1) (S 2) (S 3) (S 4) (S 5) (S 6), ntX cI (a 9) (a 10) (a 11) (a 12) (S 7) (S 8) (S 9) (S 12 8), daX cI (a 13) (a 14) (S 10) (S 11)]) (some (.long (rowR S r h0))) (List.flatten [rbC x0 (a 0) p0 q0 t0 k0 f0 w0, stO a (S 12 0) (S 12 1) (S 12 2) (S 12 3) (S 12 4) (S 12 5) (S 12 6) (S 12 7), flX cI cZ (a 1) (a 2) (a 3) (a 4) (a 5) (a 6) (a 7) (a 8) (S 0) (S 1) (S 2) (S 3) (S 4) (S 5) (S 6), ntX cI (a 9) (a 10) (a 11) (a 12) (S 7) (S 8) (S 9) (S 12 8), daX cI (a 13) (a 14) (S 10) (S 11)]) 0 0 := by
  refine C0_long (cc := cX6_mixRibbon) (maxL := 7) (by decide) rfl (Nat.le_of_ble_eq_true rfl) ?_
  intro p e s m below meth c A ls Q X hK hP hD hS hA hl hend
  have X : CallFix p m c cX6_mixRibbon 7 s ([.ref x0, .long h0, .int (nI r)] : List Value).toArray wsX6_mixRibbon RX6 := X
  obtain ⟨hx, hb, hml, hown, hts⟩ := id X
  have hl : lv_has ls 7 [(0, .ref x0), (1, .long h0), (3, .int (nI r))] := hl
  refine lv_lload_n hx hb dX6_mixRibbon_0 rfl (lv_at hl 1 rfl) ?_
  refine lv_lstore (lv' := [(4, .long h0), (0, .ref x0), (1, .long h0), (3, .int (nI r))]) hx hb dX6_mixRibbon_1 hl (by decide) rfl (fun ls hl => ?_)
  refine lv_iconst (v := 0) hx hb dX6_mixRibbon_3 (by decide) ?_
  refine lv_istore (lv' := [(6, .int 0), (4, .long h0), (0, .ref x0), (1, .long h0), (3, .int (nI r))]) hx hb dX6_mixRibbon_4 hl (by decide) rfl (fun ls hl => ?_)
  have lp_6 : ∀ (nn : Nat) (w5 : Nat), True → (w5 ≤ 5) → 5 - w5 < nn → ∀ (H : Heap) (locs : List Loc) (ls : Array Slot), va_P D vwCl (List.flatten [rbC x0 (a 0) p0 q0 t0 k0 f0 w0, stO a (S 12 0) (S 12 1) (S 12 2) (S 12 3) (S 12 4) (S 12 5) (S 12 6) (S 12 7), flX cI cZ (a 1) (a 2) (a 3) (a 4) (a 5) (a 6) (a 7) (a 8) (S 0) (S 1) (S 2) (S 3) (S 4) (S 5) (S 6), ntX cI (a 9) (a 10) (a 11) (a 12) (S 7) (S 8) (S 9) (S 12 8), daX cI (a 13) (a 14) (S 10) (S 11)]) H → va_D A (List.flatten [rbC x0 (a 0) p0 q0 t0 k0 f0 w0, stO a (S 12 0) (S 12 1) (S 12 2) (S 12 3) (S 12 4) (S 12 5) (S 12 6) (S 12 7), flX cI cZ (a 1) (a 2) (a 3) (a 4) (a 5) (a 6) (a 7) (a 8) (S 0) (S 1) (S 2) (S 3) (S 4) (S 5) (S 6), ntX cI (a 9) (a 10) (a 11) (a 12) (S 7) (S 8) (S 9) (S 12 8), daX cI (a 13) (a 14) (S 10) (S 11)]) → va_S A s.heap H locs → lv_has ls 7 [(0, .ref x0), (3, .int (nI r)), (4, .long (hm (ribS S r) w5 h0)), (6, .int (nI w5))] → W p l e ({ frames := 6, cells := 0, slots := 0, locals := 131 } : Room) s m ([.ref x0, .long h0, .int (nI r)] : List Value).toArray below meth c H locs 0 0 Q (F0 m 6 ls []) := by
    intro nn
    induction nn with
    | zero => intro w5 _ hw5 hmz; exact absurd hmz (Nat.not_lt_zero _)
    | succ nn ih_6 =>
      intro w5 _ hw5 hms H locs ls hP hD hS hl
      refine lv_iload hx hb dX6_mixRibbon_6 (lv_at hl 3 rfl) ?_
      refine lv_iconst (v := 4) hx hb dX6_mixRibbon_8 (by decide) ?_
      refine n_gt (i := w5) (j := 4) (tgt := 33) hx hb (by omega) (by omega) dX6_mixRibbon_9 (by decide) (fun c9 => ?_) (fun c9 => ?_)
      · skip
        obtain rfl : w5 = 5 := by omega
        have hP : va_P D vwCl (List.flatten [rbC x0 (a 0) p0 q0 t0 k0 f0 w0, stO a (S 12 0) (S 12 1) (S 12 2) (S 12 3) (S 12 4) (S 12 5) (S 12 6) (S 12 7), flX cI cZ (a 1) (a 2) (a 3) (a 4) (a 5) (a 6) (a 7) (a 8) (S 0) (S 1) (S 2) (S 3) (S 4) (S 5) (S 6), ntX cI (a 9) (a 10) (a 11) (a 12) (S 7) (S 8) (S 9) (S 12 8), daX cI (a 13) (a 14) (S 10) (S 11)]) _ := hP
        have hD : va_D A (List.flatten [rbC x0 (a 0) p0 q0 t0 k0 f0 w0, stO a (S 12 0) (S 12 1) (S 12 2) (S 12 3) (S 12 4) (S 12 5) (S 12 6) (S 12 7), flX cI cZ (a 1) (a 2) (a 3) (a 4) (a 5) (a 6) (a 7) (a 8) (S 0) (S 1) (S 2) (S 3) (S 4) (S 5) (S 6), ntX cI (a 9) (a 10) (a 11) (a 12) (S 7) (S 8) (S 9) (S 12 8), daX cI (a 13) (a 14) (S 10) (S 11)]) := hD
        have hl : lv_has ls 7 [(0, .ref x0), (3, .int (nI r)), (4, .long (hm (ribS S r) 5 h0)), (6, .int (nI 5))] := hl
        refine lv_lload hx hb dX6_mixRibbon_33 (lv_at hl 2 rfl) ?_
        refine lv_aload_n hx hb dX6_mixRibbon_35 rfl (lv_at hl 0 rfl) ?_
        refine lv_iload_n hx hb dX6_mixRibbon_36 rfl (lv_at hl 1 rfl) ?_
        refine lv_iconst (v := 4) hx hb dX6_mixRibbon_37 (by decide) ?_
        refine kcallV (As := [.int (nI r), .int 4]) (rest := [.long (hm (ribS S r) 5 h0)]) (Wn := [rbC x0 (a 0) p0 q0 t0 k0 f0 w0, stO a (S 12 0) (S 12 1) (S 12 2) (S 12 3) (S 12 4) (S 12 5) (S 12 6) (S 12 7), flX cI cZ (a 1) (a 2) (a 3) (a 4) (a 5) (a 6) (a 7) (a 8) (S 0) (S 1) (S 2) (S 3) (S 4) (S 5) (S 6), ntX cI (a 9) (a 10) (a 11) (a 12) (S 7) (S 8) (S 9) (S 12 8), daX cI (a 13) (a 14) (S 10) (S 11)]) X (c_X6_why4 l D cI cZ cS cJ x0 p0 q0 t0 k0 f0 w0 a S r (by omega) (by omega)) (cwV 2 hts gX6_mixRibbon_X6_why rfl rfl rfl (by decide +kernel) ⟨Nat.le_of_ble_eq_true rfl, Nat.le_of_ble_eq_true rfl⟩) hK hP hD hS hA [0, 1, 2, 3, 4] rfl (by decide +kernel) rfl rfl rfl 0 6 rfl rfl rfl hl.1 rfl (Nat.le_of_ble_eq_true rfl) dX6_mixRibbon_38 ⟨Nat.le_of_ble_eq_true rfl, Nat.le_of_ble_eq_true rfl⟩ (fun H locs hP hD hS => ?_)
        refine lv_eqi (y := whyS S r 4) (rfl) ?_
        refine lv_i2l (v := (whyS S r 4).toInt64) hx hb dX6_mixRibbon_41 rfl ?_
        refine kcallS (As := [.long (hm (ribS S r) 5 h0), .long ((whyS S r 4).toInt64)]) (rest := []) (Wn := [rbC x0 (a 0) p0 q0 t0 k0 f0 w0, stO a (S 12 0) (S 12 1) (S 12 2) (S 12 3) (S 12 4) (S 12 5) (S 12 6) (S 12 7), flX cI cZ (a 1) (a 2) (a 3) (a 4) (a 5) (a 6) (a 7) (a 8) (S 0) (S 1) (S 2) (S 3) (S 4) (S 5) (S 6), ntX cI (a 9) (a 10) (a 11) (a 12) (S 7) (S 8) (S 9) (S 12 8), daX cI (a 13) (a 14) (S 10) (S 11)]) X (c_X6_mix l D cI cZ cS cJ (hm (ribS S r) 5 h0) ((whyS S r 4).toInt64)) (va_cwS 2 hts gX6_mixRibbon_X6_mix rfl rfl rfl (by decide +kernel) ⟨Nat.le_of_ble_eq_true rfl, Nat.le_of_ble_eq_true rfl⟩) hK hP hD hS hA [] rfl (by decide +kernel) rfl rfl rfl rfl hl.1 rfl (Nat.le_of_ble_eq_true rfl) dX6_mixRibbon_42 ⟨Nat.le_of_ble_eq_true rfl, Nat.le_of_ble_eq_true rfl⟩ (fun H locs hP hD hS => ?_)
        refine lv_lstore (lv' := [(4, .long ((31 * (hm (ribS S r) 5 h0)) + ((whyS S r 4).toInt64))), (0, .ref x0), (3, .int (nI r)), (6, .int (nI 5))]) hx hb dX6_mixRibbon_45 hl (by decide) rfl (fun ls hl => ?_)
        refine lv_lload hx hb dX6_mixRibbon_47 (lv_at hl 0 rfl) ?_
        refine lv_aload_n hx hb dX6_mixRibbon_49 rfl (lv_at hl 1 rfl) ?_
        refine lv_iload_n hx hb dX6_mixRibbon_50 rfl (lv_at hl 2 rfl) ?_
        refine lv_iconst (v := 5) hx hb dX6_mixRibbon_51 (by decide) ?_
        refine kcallV (As := [.int (nI r), .int 5]) (rest := [.long ((31 * (hm (ribS S r) 5 h0)) + ((whyS S r 4).toInt64))]) (Wn := [rbC x0 (a 0) p0 q0 t0 k0 f0 w0, stO a (S 12 0) (S 12 1) (S 12 2) (S 12 3) (S 12 4) (S 12 5) (S 12 6) (S 12 7), flX cI cZ (a 1) (a 2) (a 3) (a 4) (a 5) (a 6) (a 7) (a 8) (S 0) (S 1) (S 2) (S 3) (S 4) (S 5) (S 6), ntX cI (a 9) (a 10) (a 11) (a 12) (S 7) (S 8) (S 9) (S 12 8), daX cI (a 13) (a 14) (S 10) (S 11)]) X (c_X6_why5 l D cI cZ cS cJ x0 p0 q0 t0 k0 f0 w0 a S r (by omega) (by omega)) (cwV 2 hts gX6_mixRibbon_X6_why rfl rfl rfl (by decide +kernel) ⟨Nat.le_of_ble_eq_true rfl, Nat.le_of_ble_eq_true rfl⟩) hK hP hD hS hA [0, 1, 2, 3, 4] rfl (by decide +kernel) rfl rfl rfl 0 6 rfl rfl rfl hl.1 rfl (Nat.le_of_ble_eq_true rfl) dX6_mixRibbon_52 ⟨Nat.le_of_ble_eq_true rfl, Nat.le_of_ble_eq_true rfl⟩ (fun H locs hP hD hS => ?_)
        refine lv_eqi (y := whyS S r 5) (rfl) ?_
        refine lv_i2l (v := (whyS S r 5).toInt64) hx hb dX6_mixRibbon_55 rfl ?_
        refine kcallS (As := [.long ((31 * (hm (ribS S r) 5 h0)) + ((whyS S r 4).toInt64)), .long ((whyS S r 5).toInt64)]) (rest := []) (Wn := [rbC x0 (a 0) p0 q0 t0 k0 f0 w0, stO a (S 12 0) (S 12 1) (S 12 2) (S 12 3) (S 12 4) (S 12 5) (S 12 6) (S 12 7), flX cI cZ (a 1) (a 2) (a 3) (a 4) (a 5) (a 6) (a 7) (a 8) (S 0) (S 1) (S 2) (S 3) (S 4) (S 5) (S 6), ntX cI (a 9) (a 10) (a 11) (a 12) (S 7) (S 8) (S 9) (S 12 8), daX cI (a 13) (a 14) (S 10) (S 11)]) X (c_X6_mix l D cI cZ cS cJ ((31 * (hm (ribS S r) 5 h0)) + ((whyS S r 4).toInt64)) ((whyS S r 5).toInt64)) (va_cwS 2 hts gX6_mixRibbon_X6_mix rfl rfl rfl (by decide +kernel) ⟨Nat.le_of_ble_eq_true rfl, Nat.le_of_ble_eq_true rfl⟩) hK hP hD hS hA [] rfl (by decide +kernel) rfl rfl rfl rfl hl.1 rfl (Nat.le_of_ble_eq_true rfl) dX6_mixRibbon_56 ⟨Nat.le_of_ble_eq_true rfl, Nat.le_of_ble_eq_true rfl⟩ (fun H locs hP hD hS => ?_)
        refine hend _ _ _ _ _ ?_ hP hD hS dX6_mixRibbon_59
        exact (by rw [rowR])
      · skip
        refine lv_lload hx hb dX6_mixRibbon_12 (lv_at hl 2 rfl) ?_
        refine lv_aload_n hx hb dX6_mixRibbon_14 rfl (lv_at hl 0 rfl) ?_
        refine lv_iload_n hx hb dX6_mixRibbon_15 rfl (lv_at hl 1 rfl) ?_
        refine lv_iload hx hb dX6_mixRibbon_16 (lv_at hl 3 rfl) ?_
        refine kcallV (As := [.int (nI r), .int (nI w5)]) (rest := [.long (hm (ribS S r) w5 h0)]) (Wn := [rbC x0 (a 0) p0 q0 t0 k0 f0 w0, stO a (S 12 0) (S 12 1) (S 12 2) (S 12 3) (S 12 4) (S 12 5) (S 12 6) (S 12 7), flX cI cZ (a 1) (a 2) (a 3) (a 4) (a 5) (a 6) (a 7) (a 8) (S 0) (S 1) (S 2) (S 3) (S 4) (S 5) (S 6), ntX cI (a 9) (a 10) (a 11) (a 12) (S 7) (S 8) (S 9) (S 12 8), daX cI (a 13) (a 14) (S 10) (S 11)]) X (c_X6_ribbon l D cI cZ cS cJ x0 p0 q0 t0 k0 f0 w0 a S r w5 (by omega) (by omega)) (cwV 2 hts gX6_mixRibbon_X6_ribbon rfl rfl rfl (by decide +kernel) ⟨Nat.le_of_ble_eq_true rfl, Nat.le_of_ble_eq_true rfl⟩) hK hP hD hS hA [0, 1, 2, 3, 4] rfl (by decide +kernel) rfl rfl rfl 0 6 rfl rfl rfl hl.1 rfl (Nat.le_of_ble_eq_true rfl) dX6_mixRibbon_18 ⟨Nat.le_of_ble_eq_true rfl, Nat.le_of_ble_eq_true rfl⟩ (fun H locs hP hD hS => ?_)
        refine lv_i2l (v := (ribS S r w5).toInt64) hx hb dX6_mixRibbon_21 rfl ?_
        refine kcallS (As := [.long (hm (ribS S r) w5 h0), .long ((ribS S r w5).toInt64)]) (rest := []) (Wn := [rbC x0 (a 0) p0 q0 t0 k0 f0 w0, stO a (S 12 0) (S 12 1) (S 12 2) (S 12 3) (S 12 4) (S 12 5) (S 12 6) (S 12 7), flX cI cZ (a 1) (a 2) (a 3) (a 4) (a 5) (a 6) (a 7) (a 8) (S 0) (S 1) (S 2) (S 3) (S 4) (S 5) (S 6), ntX cI (a 9) (a 10) (a 11) (a 12) (S 7) (S 8) (S 9) (S 12 8), daX cI (a 13) (a 14) (S 10) (S 11)]) X (c_X6_mix l D cI cZ cS cJ (hm (ribS S r) w5 h0) ((ribS S r w5).toInt64)) (va_cwS 2 hts gX6_mixRibbon_X6_mix rfl rfl rfl (by decide +kernel) ⟨Nat.le_of_ble_eq_true rfl, Nat.le_of_ble_eq_true rfl⟩) hK hP hD hS hA [] rfl (by decide +kernel) rfl rfl rfl rfl hl.1 rfl (Nat.le_of_ble_eq_true rfl) dX6_mixRibbon_22 ⟨Nat.le_of_ble_eq_true rfl, Nat.le_of_ble_eq_true rfl⟩ (fun H locs hP hD hS => ?_)
        refine lv_lstore (lv' := [(4, .long ((31 * (hm (ribS S r) w5 h0)) + ((ribS S r w5).toInt64))), (0, .ref x0), (3, .int (nI r)), (6, .int (nI w5))]) hx hb dX6_mixRibbon_25 hl (by decide) rfl (fun ls hl => ?_)
        refine lv_iinc (v := nI (w5 + 1)) (lv' := [(6, .int (nI (w5 + 1))), (4, .long ((31 * (hm (ribS S r) w5 h0)) + ((ribS S r w5).toInt64))), (0, .ref x0), (3, .int (nI r))]) hx hb dX6_mixRibbon_27 hl (k := 3) rfl (nI_add _ _) (by decide) rfl (fun ls hl => ?_)
        refine lv_goto (tgt := 6) hx hb dX6_mixRibbon_30 (by decide) ?_
        have hl : lv_has ls 7 [(6, .int (nI (w5 + 1))), (4, .long (hm (ribS S r) (w5 + 1) h0)), (0, .ref x0), (3, .int (nI r))] := lv_reg hl 1 (x := .long ((31 * (hm (ribS S r) w5 h0)) + ((ribS S r w5).toInt64))) (y := .long (hm (ribS S r) (w5 + 1) h0)) rfl (congrArg Value.long (hm_s _ _ _)) rfl
        exact ih_6  (w5 + 1) trivial (by omega) (by omega) _ _ _ hP hD hS (lv_sub hl [2, 3, 1, 0] rfl)
  have hl : lv_has ls 7 [(6, .int 0), (4, .long (hm (ribS S r) 0 h0)), (0, .ref x0), (1, .long h0), (3, .int (nI r))] := lv_reg hl 1 (x := .long h0) (y := .long (hm (ribS S r) 0 h0)) rfl (congrArg Value.long (hm_0 _ _)) rfl
  exact lp_6 (5 - 0 + 1) 0 trivial (by omega) (Nat.lt_succ_self _) _ _ _ hP hD hS (lv_sub hl [2, 4, 1, 0] rfl)

set_option maxHeartbeats 4000000 in
set_option maxRecDepth 100000 in
theorem c_X6_mixNotes (l : Launch) (D : va_G) (cI cZ cS cJ : ClassId) (x0 : Nat) (p0 : Nat) (q0 : Nat) (t0 : Nat) (k0 : Nat) (f0 : Nat) (w0 : Int32) (a : Nat → Nat) (S : Nat → Nat → Int32) (y : Nat) (h0 : Int64) (hy : S 12 8 = nI y) (hy20 : y ≤ 20) : C0 l yX6_mixNotes wsX6_mixNotes ({ frames := 1, cells := 0, slots := 0, locals := 23 }) D (tyL cI cZ cS cJ) [.ref x0, .long h0] (List.flatten [rbC x0 (a 0) p0 q0 t0 k0 f0 w0, stO a (S 12 0) (S 12 1) (S 12 2) (S 12 3) (S 12 4) (S 12 5) (S 12 6) (S 12 7), flX cI cZ (a 1) (a 2) (a 3) (a 4) (a 5) (a 6) (a 7) (a 8) (S 0) (S 1) (S 2) (S 3) (S 4) (S 5) (S 6), ntX cI (a 9) (a 10) (a 11) (a 12) (S 7) (S 8) (S 9) (S 12 8), daX cI (a 13) (a 14) (S 10) (S 11)]) (some (.long (hm (ntq S) (3 * y) h0))) (List.flatten [rbC x0 (a 0) p0 q0 t0 k0 f0 w0, stO a (S 12 0) (S 12 1) (S 12 2) (S 12 3) (S 12 4) (S 12 5) (S 12 6) (S 12 7), flX cI cZ (a 1) (a 2) (a 3) (a 4) (a 5) (a 6) (a 7) (a 8) (S 0) (S 1) (S 2) (S 3) (S 4) (S 5) (S 6), ntX cI (a 9) (a 10) (a 11) (a 12) (S 7) (S 8) (S 9) (S 12 8), daX cI (a 13) (a 14) (S 10) (S 11)]) 0 0 := by
  refine C0_long (cc := cX6_mixNotes) (maxL := 7) (by decide) rfl (Nat.le_of_ble_eq_true rfl) ?_
  intro p e s m below meth c A ls Q X hK hP hD hS hA hl hend
  have X : CallFix p m c cX6_mixNotes 7 s ([.ref x0, .long h0] : List Value).toArray wsX6_mixNotes RX6 := X
  obtain ⟨hx, hb, hml, hown, hts⟩ := id X
  have hl : lv_has ls 7 [(0, .ref x0), (1, .long h0)] := hl
  have hinX3 : ∀ w ∈ u_ws RX3 TX3 4, w ∈ wsX6_mixNotes := by decide +kernel
  have hinX4 : ∀ w ∈ u_ws RX4 TX4 12, w ∈ wsX6_mixNotes := by decide +kernel
  have hinX6 : ∀ w ∈ u_ws RX6 TX6 7, w ∈ wsX6_mixNotes := by decide +kernel
  refine lv_lload_n hx hb dX6_mixNotes_0 rfl (lv_at hl 1 rfl) ?_
  refine lv_lstore_n (lv' := [(3, .long h0), (0, .ref x0), (1, .long h0)]) hx hb dX6_mixNotes_1 rfl hl (by decide) rfl (fun ls hl => ?_)
  refine lv_iconst (v := 0) hx hb dX6_mixNotes_2 (by decide) ?_
  refine lv_istore (lv' := [(5, .int 0), (3, .long h0), (0, .ref x0), (1, .long h0)]) hx hb dX6_mixNotes_3 hl (by decide) rfl (fun ls hl => ?_)
  have lp_5 : ∀ (nn : Nat) (i : Nat), True → (i ≤ y) → y - i < nn → ∀ (H : Heap) (locs : List Loc) (ls : Array Slot), va_P D vwCl (List.flatten [rbC x0 (a 0) p0 q0 t0 k0 f0 w0, stO a (S 12 0) (S 12 1) (S 12 2) (S 12 3) (S 12 4) (S 12 5) (S 12 6) (S 12 7), flX cI cZ (a 1) (a 2) (a 3) (a 4) (a 5) (a 6) (a 7) (a 8) (S 0) (S 1) (S 2) (S 3) (S 4) (S 5) (S 6), ntX cI (a 9) (a 10) (a 11) (a 12) (S 7) (S 8) (S 9) (S 12 8), daX cI (a 13) (a 14) (S 10) (S 11)]) H → va_D A (List.flatten [rbC x0 (a 0) p0 q0 t0 k0 f0 w0, stO a (S 12 0) (S 12 1) (S 12 2) (S 12 3) (S 12 4) (S 12 5) (S 12 6) (S 12 7), flX cI cZ (a 1) (a 2) (a 3) (a 4) (a 5) (a 6) (a 7) (a 8) (S 0) (S 1) (S 2) (S 3) (S 4) (S 5) (S 6), ntX cI (a 9) (a 10) (a 11) (a 12) (S 7) (S 8) (S 9) (S 12 8), daX cI (a 13) (a 14) (S 10) (S 11)]) → va_S A s.heap H locs → lv_has ls 7 [(0, .ref x0), (3, .long (hm (ntq S) (3 * i) h0)), (5, .int (nI i))] → W p l e ({ frames := 1, cells := 0, slots := 0, locals := 23 } : Room) s m ([.ref x0, .long h0] : List Value).toArray below meth c H locs 0 0 Q (F0 m 5 ls []) := by
    intro nn
    induction nn with
    | zero => intro i _ hi hmz; exact absurd hmz (Nat.not_lt_zero _)
    | succ nn ih_5 =>
      intro i _ hi hms H locs ls hP hD hS hl
      refine lv_iload hx hb dX6_mixNotes_5 (lv_at hl 2 rfl) ?_
      refine lv_aload_n hx hb dX6_mixNotes_7 rfl (lv_at hl 0 rfl) ?_
      refine va_get (D := D) (ci := 6) (v := .ref (a 0)) (C := RX6) (T := TX6) (N := 7) hx hb hts hinX6 hown hK hP 0 rfl rfl 0 (by decide) (hts (.fieldLink RX6 12 "RibbonBalloons" "now" "LRibbonBalloons$State;") (by decide +kernel)) (fun _ h9 => h9) rfl dX6_mixNotes_8 ?_
      refine va_get (D := D) (ci := 4) (v := .ref (a 9)) (C := RX4) (T := TX4) (N := 12) hx hb hts hinX4 hown hK hP 1 rfl rfl 1 (by decide) (hts (.fieldLink RX6 200 "RibbonBalloons$State" "notes" "LRibbonBalloons$Notes;") (by decide +kernel)) (fun _ h9 => h9) rfl dX6_mixNotes_11 ?_
      refine va_get (D := D) (ci := 3) (v := .int (S 12 8)) (C := RX3) (T := TX3) (N := 4) hx hb hts hinX3 hown hK hP 10 rfl rfl 3 (by decide) (hts (.fieldLink RX6 233 "RibbonBalloons$Notes" "size" "I") (by decide +kernel)) (fun _ h9 => h9) rfl dX6_mixNotes_14 ?_
      refine lv_eqi (y := nI y) hy ?_
      refine n_ge (i := i) (j := y) (tgt := 61) hx hb (by omega) (by omega) dX6_mixNotes_17 (by decide) (fun c17 => ?_) (fun c17 => ?_)
      · skip
        refine lv_lload_n hx hb dX6_mixNotes_61 rfl (lv_at hl 1 rfl) ?_
        refine hend _ _ _ _ _ ?_ hP hD hS dX6_mixNotes_62
        rw [show i = y by omega]
      · skip
        refine lv_iconst (v := 0) hx hb dX6_mixNotes_20 (by decide) ?_
        refine lv_istore (lv' := [(6, .int 0), (0, .ref x0), (3, .long (hm (ntq S) (3 * i) h0)), (5, .int (nI i))]) hx hb dX6_mixNotes_21 hl (by decide) rfl (fun ls hl => ?_)
        have lp_23 : ∀ (nn : Nat) (j : Nat), True → (j ≤ 3) → 3 - j < nn → ∀ (H : Heap) (locs : List Loc) (ls : Array Slot), va_P D vwCl (List.flatten [rbC x0 (a 0) p0 q0 t0 k0 f0 w0, stO a (S 12 0) (S 12 1) (S 12 2) (S 12 3) (S 12 4) (S 12 5) (S 12 6) (S 12 7), flX cI cZ (a 1) (a 2) (a 3) (a 4) (a 5) (a 6) (a 7) (a 8) (S 0) (S 1) (S 2) (S 3) (S 4) (S 5) (S 6), ntX cI (a 9) (a 10) (a 11) (a 12) (S 7) (S 8) (S 9) (S 12 8), daX cI (a 13) (a 14) (S 10) (S 11)]) H → va_D A (List.flatten [rbC x0 (a 0) p0 q0 t0 k0 f0 w0, stO a (S 12 0) (S 12 1) (S 12 2) (S 12 3) (S 12 4) (S 12 5) (S 12 6) (S 12 7), flX cI cZ (a 1) (a 2) (a 3) (a 4) (a 5) (a 6) (a 7) (a 8) (S 0) (S 1) (S 2) (S 3) (S 4) (S 5) (S 6), ntX cI (a 9) (a 10) (a 11) (a 12) (S 7) (S 8) (S 9) (S 12 8), daX cI (a 13) (a 14) (S 10) (S 11)]) → va_S A s.heap H locs → lv_has ls 7 [(0, .ref x0), (3, .long (hm (ntq S) (3 * i + j) h0)), (5, .int (nI i)), (6, .int (nI j))] → W p l e ({ frames := 1, cells := 0, slots := 0, locals := 23 } : Room) s m ([.ref x0, .long h0] : List Value).toArray below meth c H locs 0 0 Q (F0 m 23 ls []) := by
          intro nn
          induction nn with
          | zero => intro j _ hj hmz; exact absurd hmz (Nat.not_lt_zero _)
          | succ nn ih_23 =>
            intro j _ hj hms H locs ls hP hD hS hl
            refine lv_iload hx hb dX6_mixNotes_23 (lv_at hl 3 rfl) ?_
            refine lv_iconst (v := 2) hx hb dX6_mixNotes_25 (by decide) ?_
            refine n_gt (i := j) (j := 2) (tgt := 55) hx hb (by omega) (by omega) dX6_mixNotes_26 (by decide) (fun c26 => ?_) (fun c26 => ?_)
            · skip
              obtain rfl : j = 3 := by omega
              have hP : va_P D vwCl (List.flatten [rbC x0 (a 0) p0 q0 t0 k0 f0 w0, stO a (S 12 0) (S 12 1) (S 12 2) (S 12 3) (S 12 4) (S 12 5) (S 12 6) (S 12 7), flX cI cZ (a 1) (a 2) (a 3) (a 4) (a 5) (a 6) (a 7) (a 8) (S 0) (S 1) (S 2) (S 3) (S 4) (S 5) (S 6), ntX cI (a 9) (a 10) (a 11) (a 12) (S 7) (S 8) (S 9) (S 12 8), daX cI (a 13) (a 14) (S 10) (S 11)]) _ := hP
              have hD : va_D A (List.flatten [rbC x0 (a 0) p0 q0 t0 k0 f0 w0, stO a (S 12 0) (S 12 1) (S 12 2) (S 12 3) (S 12 4) (S 12 5) (S 12 6) (S 12 7), flX cI cZ (a 1) (a 2) (a 3) (a 4) (a 5) (a 6) (a 7) (a 8) (S 0) (S 1) (S 2) (S 3) (S 4) (S 5) (S 6), ntX cI (a 9) (a 10) (a 11) (a 12) (S 7) (S 8) (S 9) (S 12 8), daX cI (a 13) (a 14) (S 10) (S 11)]) := hD
              have hl : lv_has ls 7 [(0, .ref x0), (3, .long (hm (ntq S) (3 * i + 3) h0)), (5, .int (nI i)), (6, .int (nI 3))] := hl
              refine lv_iinc (v := nI (i + 1)) (lv' := [(5, .int (nI (i + 1))), (0, .ref x0), (3, .long (hm (ntq S) (3 * i + 3) h0)), (6, .int (nI 3))]) hx hb dX6_mixNotes_55 hl (k := 2) rfl (nI_add _ _) (by decide) rfl (fun ls hl => ?_)
              refine lv_goto (tgt := 5) hx hb dX6_mixNotes_58 (by decide) ?_
              have hl : lv_has ls 7 [(5, .int (nI (i + 1))), (0, .ref x0), (3, .long (hm (ntq S) (3 * (i + 1)) h0)), (6, .int (nI 3))] := lv_reg hl 2 (x := .long (hm (ntq S) (3 * i + 3) h0)) (y := .long (hm (ntq S) (3 * (i + 1)) h0)) rfl (congrArg Value.long (congrArg (fun q => hm (ntq S) q h0) (by omega))) rfl
              exact ih_5  (i + 1) trivial (by omega) (by omega) _ _ _ hP hD hS (lv_sub hl [1, 2, 0] rfl)
            · skip
              refine lv_lload_n hx hb dX6_mixNotes_29 rfl (lv_at hl 1 rfl) ?_
              refine lv_aload_n hx hb dX6_mixNotes_30 rfl (lv_at hl 0 rfl) ?_
              refine va_get (D := D) (ci := 6) (v := .ref (a 0)) (C := RX6) (T := TX6) (N := 7) hx hb hts hinX6 hown hK hP 0 rfl rfl 0 (by decide) (hts (.fieldLink RX6 12 "RibbonBalloons" "now" "LRibbonBalloons$State;") (by decide +kernel)) (fun _ h9 => h9) rfl dX6_mixNotes_31 ?_
              refine va_get (D := D) (ci := 4) (v := .ref (a 9)) (C := RX4) (T := TX4) (N := 12) hx hb hts hinX4 hown hK hP 1 rfl rfl 1 (by decide) (hts (.fieldLink RX6 200 "RibbonBalloons$State" "notes" "LRibbonBalloons$Notes;") (by decide +kernel)) (fun _ h9 => h9) rfl dX6_mixNotes_34 ?_
              refine lv_iload hx hb dX6_mixNotes_37 (lv_at hl 2 rfl) ?_
              refine lv_iload hx hb dX6_mixNotes_39 (lv_at hl 3 rfl) ?_
              refine kcallV (As := [.int (nI i), .int (nI j)]) (rest := [.long (hm (ntq S) (3 * i + j) h0)]) (Wn := [rbC x0 (a 0) p0 q0 t0 k0 f0 w0, stO a (S 12 0) (S 12 1) (S 12 2) (S 12 3) (S 12 4) (S 12 5) (S 12 6) (S 12 7), flX cI cZ (a 1) (a 2) (a 3) (a 4) (a 5) (a 6) (a 7) (a 8) (S 0) (S 1) (S 2) (S 3) (S 4) (S 5) (S 6), ntX cI (a 9) (a 10) (a 11) (a 12) (S 7) (S 8) (S 9) (S 12 8), daX cI (a 13) (a 14) (S 10) (S 11)]) X (c_X3_tell l D cI cZ cS cJ (a 9) (a 10) (a 11) (a 12) S y i j hy hy20 (by omega) (by omega)) (cwV 2 hts gX6_mixNotes_X3_tell rfl rfl rfl (by decide +kernel) ⟨Nat.le_of_ble_eq_true rfl, Nat.le_of_ble_eq_true rfl⟩) hK hP hD hS hA [3] rfl (by decide +kernel) rfl rfl rfl 10 3 rfl rfl rfl hl.1 rfl (Nat.le_of_ble_eq_true rfl) dX6_mixNotes_41 ⟨Nat.le_of_ble_eq_true rfl, Nat.le_of_ble_eq_true rfl⟩ (fun H locs hP hD hS => ?_)
              refine lv_eqi (y := ntq S (3 * i + j)) (ntl_q (by omega) (by omega)) ?_
              refine lv_i2l (v := (ntq S (3 * i + j)).toInt64) hx hb dX6_mixNotes_44 rfl ?_
              refine kcallS (As := [.long (hm (ntq S) (3 * i + j) h0), .long ((ntq S (3 * i + j)).toInt64)]) (rest := []) (Wn := [rbC x0 (a 0) p0 q0 t0 k0 f0 w0, stO a (S 12 0) (S 12 1) (S 12 2) (S 12 3) (S 12 4) (S 12 5) (S 12 6) (S 12 7), flX cI cZ (a 1) (a 2) (a 3) (a 4) (a 5) (a 6) (a 7) (a 8) (S 0) (S 1) (S 2) (S 3) (S 4) (S 5) (S 6), ntX cI (a 9) (a 10) (a 11) (a 12) (S 7) (S 8) (S 9) (S 12 8), daX cI (a 13) (a 14) (S 10) (S 11)]) X (c_X6_mix l D cI cZ cS cJ (hm (ntq S) (3 * i + j) h0) ((ntq S (3 * i + j)).toInt64)) (va_cwS 2 hts gX6_mixNotes_X6_mix rfl rfl rfl (by decide +kernel) ⟨Nat.le_of_ble_eq_true rfl, Nat.le_of_ble_eq_true rfl⟩) hK hP hD hS hA [] rfl (by decide +kernel) rfl rfl rfl rfl hl.1 rfl (Nat.le_of_ble_eq_true rfl) dX6_mixNotes_45 ⟨Nat.le_of_ble_eq_true rfl, Nat.le_of_ble_eq_true rfl⟩ (fun H locs hP hD hS => ?_)
              refine lv_lstore_n (lv' := [(3, .long ((31 * (hm (ntq S) (3 * i + j) h0)) + ((ntq S (3 * i + j)).toInt64))), (0, .ref x0), (5, .int (nI i)), (6, .int (nI j))]) hx hb dX6_mixNotes_48 rfl hl (by decide) rfl (fun ls hl => ?_)
              refine lv_iinc (v := nI (j + 1)) (lv' := [(6, .int (nI (j + 1))), (3, .long ((31 * (hm (ntq S) (3 * i + j) h0)) + ((ntq S (3 * i + j)).toInt64))), (0, .ref x0), (5, .int (nI i))]) hx hb dX6_mixNotes_49 hl (k := 3) rfl (nI_add _ _) (by decide) rfl (fun ls hl => ?_)
              refine lv_goto (tgt := 23) hx hb dX6_mixNotes_52 (by decide) ?_
              have hl : lv_has ls 7 [(6, .int (nI (j + 1))), (3, .long (hm (ntq S) (3 * i + (j + 1)) h0)), (0, .ref x0), (5, .int (nI i))] := lv_reg hl 1 (x := .long ((31 * (hm (ntq S) (3 * i + j) h0)) + ((ntq S (3 * i + j)).toInt64))) (y := .long (hm (ntq S) (3 * i + (j + 1)) h0)) rfl (congrArg Value.long (hm_s _ _ _)) rfl
              exact ih_23  (j + 1) trivial (by omega) (by omega) _ _ _ hP hD hS (lv_sub hl [2, 1, 3, 0] rfl)
        have hl : lv_has ls 7 [(6, .int 0), (0, .ref x0), (3, .long (hm (ntq S) (3 * i + 0) h0)), (5, .int (nI i))] := lv_reg hl 2 (x := .long (hm (ntq S) (3 * i) h0)) (y := .long (hm (ntq S) (3 * i + 0) h0)) rfl (congrArg Value.long (rfl)) rfl
        exact lp_23 (3 - 0 + 1) 0 trivial (by omega) (Nat.lt_succ_self _) _ _ _ hP hD hS (lv_sub hl [1, 2, 3, 0] rfl)
  have hl : lv_has ls 7 [(5, .int 0), (3, .long (hm (ntq S) (3 * 0) h0)), (0, .ref x0), (1, .long h0)] := lv_reg hl 1 (x := .long h0) (y := .long (hm (ntq S) (3 * 0) h0)) rfl (congrArg Value.long (rfl)) rfl
  exact lp_5 (y - 0 + 1) 0 trivial (by omega) (Nat.lt_succ_self _) _ _ _ hP hD hS (lv_sub hl [2, 1, 0] rfl)

set_option maxHeartbeats 4000000 in
set_option maxRecDepth 100000 in
theorem c_X6_mixText (l : Launch) (D : va_G) (cI cZ cS cJ : ClassId) (x0 : Nat) (p0 : Nat) (q0 : Nat) (t0 : Nat) (k0 : Nat) (f0 : Nat) (w0 : Int32) (a0 : Nat) (t1 : Nat) (T : Nat → Int32) (n : Int32) (z : Nat) (h0 : Int64) (hz : n = nI z) (hz60 : z ≤ 60) : C0 l yX6_mixText wsX6_mixText ({ frames := 1, cells := 0, slots := 0, locals := 23 }) D (tyL cI cZ cS cJ) [.ref x0, .long h0] (List.flatten [rbC x0 a0 p0 q0 t0 k0 f0 w0, txC cI t0 t1 T n]) (some (.long (hm T z ((31 * h0) + ((nI z).toInt64))))) (List.flatten [rbC x0 a0 p0 q0 t0 k0 f0 w0, txC cI t0 t1 T n]) 0 0 := by
  refine C0_long (cc := cX6_mixText) (maxL := 6) (by decide) rfl (Nat.le_of_ble_eq_true rfl) ?_
  intro p e s m below meth c A ls Q X hK hP hD hS hA hl hend
  have X : CallFix p m c cX6_mixText 6 s ([.ref x0, .long h0] : List Value).toArray wsX6_mixText RX6 := X
  obtain ⟨hx, hb, hml, hown, hts⟩ := id X
  have hl : lv_has ls 6 [(0, .ref x0), (1, .long h0)] := hl
  have hinX5 : ∀ w ∈ u_ws RX5 TX5 2, w ∈ wsX6_mixText := by decide +kernel
  have hinX6 : ∀ w ∈ u_ws RX6 TX6 7, w ∈ wsX6_mixText := by decide +kernel
  refine lv_lload_n hx hb dX6_mixText_0 rfl (lv_at hl 1 rfl) ?_
  refine lv_aload_n hx hb dX6_mixText_1 rfl (lv_at hl 0 rfl) ?_
  refine va_get (D := D) (ci := 6) (v := .ref t0) (C := RX6) (T := TX6) (N := 7) hx hb hts hinX6 hown hK hP 0 rfl rfl 4 (by decide) (hts (.fieldLink RX6 33 "RibbonBalloons" "text" "LRibbonBalloons$Text;") (by decide +kernel)) (fun _ h9 => h9) rfl dX6_mixText_2 ?_
  refine va_get (D := D) (ci := 5) (v := .int n) (C := RX5) (T := TX5) (N := 2) hx hb hts hinX5 hown hK hP 1 rfl rfl 1 (by decide) (hts (.fieldLink RX6 118 "RibbonBalloons$Text" "length" "I") (by decide +kernel)) (fun _ h9 => h9) rfl dX6_mixText_5 ?_
  refine lv_eqi (y := nI z) hz ?_
  refine lv_i2l (v := (nI z).toInt64) hx hb dX6_mixText_8 rfl ?_
  refine kcallS (As := [.long h0, .long ((nI z).toInt64)]) (rest := []) (Wn := [rbC x0 a0 p0 q0 t0 k0 f0 w0, txC cI t0 t1 T n]) X (c_X6_mix l D cI cZ cS cJ h0 ((nI z).toInt64)) (va_cwS 2 hts gX6_mixText_X6_mix rfl rfl rfl (by decide +kernel) ⟨Nat.le_of_ble_eq_true rfl, Nat.le_of_ble_eq_true rfl⟩) hK hP hD hS hA [] rfl (by decide +kernel) rfl rfl rfl rfl hl.1 rfl (Nat.le_of_ble_eq_true rfl) dX6_mixText_9 ⟨Nat.le_of_ble_eq_true rfl, Nat.le_of_ble_eq_true rfl⟩ (fun H locs hP hD hS => ?_)
  refine lv_lstore_n (lv' := [(3, .long ((31 * h0) + ((nI z).toInt64))), (0, .ref x0), (1, .long h0)]) hx hb dX6_mixText_12 rfl hl (by decide) rfl (fun ls hl => ?_)
  refine lv_iconst (v := 0) hx hb dX6_mixText_13 (by decide) ?_
  refine lv_istore (lv' := [(5, .int 0), (3, .long ((31 * h0) + ((nI z).toInt64))), (0, .ref x0), (1, .long h0)]) hx hb dX6_mixText_14 hl (by decide) rfl (fun ls hl => ?_)
  have lp_16 : ∀ (nn : Nat) (i : Nat), True → (i ≤ z) → z - i < nn → ∀ (H : Heap) (locs : List Loc) (ls : Array Slot), va_P D vwCl (List.flatten [rbC x0 a0 p0 q0 t0 k0 f0 w0, txC cI t0 t1 T n]) H → va_D A (List.flatten [rbC x0 a0 p0 q0 t0 k0 f0 w0, txC cI t0 t1 T n]) → va_S A s.heap H locs → lv_has ls 6 [(0, .ref x0), (3, .long (hm T i ((31 * h0) + ((nI z).toInt64)))), (5, .int (nI i))] → W p l e ({ frames := 1, cells := 0, slots := 0, locals := 23 } : Room) s m ([.ref x0, .long h0] : List Value).toArray below meth c H locs 0 0 Q (F0 m 16 ls []) := by
    intro nn
    induction nn with
    | zero => intro i _ hi hmz; exact absurd hmz (Nat.not_lt_zero _)
    | succ nn ih_16 =>
      intro i _ hi hms H locs ls hP hD hS hl
      refine lv_iload hx hb dX6_mixText_16 (lv_at hl 2 rfl) ?_
      refine lv_aload_n hx hb dX6_mixText_18 rfl (lv_at hl 0 rfl) ?_
      refine va_get (D := D) (ci := 6) (v := .ref t0) (C := RX6) (T := TX6) (N := 7) hx hb hts hinX6 hown hK hP 0 rfl rfl 4 (by decide) (hts (.fieldLink RX6 33 "RibbonBalloons" "text" "LRibbonBalloons$Text;") (by decide +kernel)) (fun _ h9 => h9) rfl dX6_mixText_19 ?_
      refine va_get (D := D) (ci := 5) (v := .int n) (C := RX5) (T := TX5) (N := 2) hx hb hts hinX5 hown hK hP 1 rfl rfl 1 (by decide) (hts (.fieldLink RX6 118 "RibbonBalloons$Text" "length" "I") (by decide +kernel)) (fun _ h9 => h9) rfl dX6_mixText_22 ?_
      refine lv_eqi (y := nI z) hz ?_
      refine n_ge (i := i) (j := z) (tgt := 49) hx hb (by omega) (by omega) dX6_mixText_25 (by decide) (fun c25 => ?_) (fun c25 => ?_)
      · skip
        refine lv_lload_n hx hb dX6_mixText_49 rfl (lv_at hl 1 rfl) ?_
        refine hend _ _ _ _ _ ?_ hP hD hS dX6_mixText_50
        rw [show i = z by omega]
      · skip
        refine lv_lload_n hx hb dX6_mixText_28 rfl (lv_at hl 1 rfl) ?_
        refine lv_aload_n hx hb dX6_mixText_29 rfl (lv_at hl 0 rfl) ?_
        refine va_get (D := D) (ci := 6) (v := .ref t0) (C := RX6) (T := TX6) (N := 7) hx hb hts hinX6 hown hK hP 0 rfl rfl 4 (by decide) (hts (.fieldLink RX6 33 "RibbonBalloons" "text" "LRibbonBalloons$Text;") (by decide +kernel)) (fun _ h9 => h9) rfl dX6_mixText_30 ?_
        refine lv_iload hx hb dX6_mixText_33 (lv_at hl 2 rfl) ?_
        refine kcallV (As := [.int (nI i)]) (rest := [.long (hm T i ((31 * h0) + ((nI z).toInt64)))]) (Wn := [rbC x0 a0 p0 q0 t0 k0 f0 w0, txC cI t0 t1 T n]) X (c_X5_code l D cI cZ cS cJ t0 t1 T n z i hz (by omega) (by omega)) (cwV 1 hts gX6_mixText_X5_code rfl rfl rfl (by decide +kernel) ⟨Nat.le_of_ble_eq_true rfl, Nat.le_of_ble_eq_true rfl⟩) hK hP hD hS hA [1] rfl (by decide +kernel) rfl rfl rfl 1 5 rfl rfl rfl hl.1 rfl (Nat.le_of_ble_eq_true rfl) dX6_mixText_35 ⟨Nat.le_of_ble_eq_true rfl, Nat.le_of_ble_eq_true rfl⟩ (fun H locs hP hD hS => ?_)
        refine lv_eqi (y := T i) (by unfold cod; rw [if_pos (by omega)]) ?_
        refine lv_i2l (v := (T i).toInt64) hx hb dX6_mixText_38 rfl ?_
        refine kcallS (As := [.long (hm T i ((31 * h0) + ((nI z).toInt64))), .long ((T i).toInt64)]) (rest := []) (Wn := [rbC x0 a0 p0 q0 t0 k0 f0 w0, txC cI t0 t1 T n]) X (c_X6_mix l D cI cZ cS cJ (hm T i ((31 * h0) + ((nI z).toInt64))) ((T i).toInt64)) (va_cwS 2 hts gX6_mixText_X6_mix rfl rfl rfl (by decide +kernel) ⟨Nat.le_of_ble_eq_true rfl, Nat.le_of_ble_eq_true rfl⟩) hK hP hD hS hA [] rfl (by decide +kernel) rfl rfl rfl rfl hl.1 rfl (Nat.le_of_ble_eq_true rfl) dX6_mixText_39 ⟨Nat.le_of_ble_eq_true rfl, Nat.le_of_ble_eq_true rfl⟩ (fun H locs hP hD hS => ?_)
        refine lv_lstore_n (lv' := [(3, .long ((31 * (hm T i ((31 * h0) + ((nI z).toInt64)))) + ((T i).toInt64))), (0, .ref x0), (5, .int (nI i))]) hx hb dX6_mixText_42 rfl hl (by decide) rfl (fun ls hl => ?_)
        refine lv_iinc (v := nI (i + 1)) (lv' := [(5, .int (nI (i + 1))), (3, .long ((31 * (hm T i ((31 * h0) + ((nI z).toInt64)))) + ((T i).toInt64))), (0, .ref x0)]) hx hb dX6_mixText_43 hl (k := 2) rfl (nI_add _ _) (by decide) rfl (fun ls hl => ?_)
        refine lv_goto (tgt := 16) hx hb dX6_mixText_46 (by decide) ?_
        have hl : lv_has ls 6 [(5, .int (nI (i + 1))), (3, .long (hm T (i + 1) ((31 * h0) + ((nI z).toInt64)))), (0, .ref x0)] := lv_reg hl 1 (x := .long ((31 * (hm T i ((31 * h0) + ((nI z).toInt64)))) + ((T i).toInt64))) (y := .long (hm T (i + 1) ((31 * h0) + ((nI z).toInt64)))) rfl (congrArg Value.long (hm_s _ _ _)) rfl
        exact ih_16  (i + 1) trivial (by omega) (by omega) _ _ _ hP hD hS (lv_sub hl [2, 1, 0] rfl)
  have hl : lv_has ls 6 [(5, .int 0), (3, .long (hm T 0 ((31 * h0) + ((nI z).toInt64)))), (0, .ref x0), (1, .long h0)] := lv_reg hl 1 (x := .long ((31 * h0) + ((nI z).toInt64))) (y := .long (hm T 0 ((31 * h0) + ((nI z).toInt64)))) rfl (congrArg Value.long (hm_0 _ _)) rfl
  exact lp_16 (z - 0 + 1) 0 trivial (by omega) (Nat.lt_succ_self _) _ _ _ hP hD hS (lv_sub hl [2, 1, 0] rfl)

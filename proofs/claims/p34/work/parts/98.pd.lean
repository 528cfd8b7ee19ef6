/-! the law's holds, piece by piece -/
set_option maxHeartbeats 4000000 in
set_option maxRecDepth 100000 in
theorem hd_in {p : Program} {e : Env} {s : State} {m : MethodId} {args : Array Value} {below : List Frame} {meth : Method} {cd : Code} {Q : State → Prop} {A : Nat → Prop} (l : Launch) (D : va_G) (cI cZ cS cJ : ClassId) (X : CallFix p m cd cL_holds 14 s args wsL_holds RL) (hK : va_K D vwCl (tyL cI cZ cS cJ) s) (hA : ∀ q, s.heap.size ≤ q → A q) (O k g a d : Nat → Nat) (w0 : Int32) (c : Nat → Nat → Nat) (f : Nat → Option Nat) (z : Nat) (V : Nat → Nat → Nat → Int32) (T : Nat → Int32) (n : Nat) (K G : Nat → Nat → Int32) (L : Nat → Int32) (v : Int32) (hO : OK (V 0)) (j : Nat) (hj : j < 8) (x9 x5 x4 x3 x2 x1 : Int32) (kk : ∀ (H : Heap) (locs : List Loc) (ls : Array Slot), va_P D vwCl (List.flatten [clP cI cZ cS O k g a d w0 c f z V T n K G L v]) H → va_D A (List.flatten [clP cI cZ cS O k g a d w0 c f z V T n K G L v]) → va_S A s.heap H locs → lv_has ls 14 [(12, .int (nI 8)), (11, .int (sm (fun e => b1 (ss (V 0) e = ss (V 0) j)) 8)), (10, .int (fuI (V 0) j 8)), (9, .int x9), (8, .int (V 0 6 j)), (7, .int (nI j)), (6, .int 1), (5, .int x5), (4, .int x4), (3, .int x3), (2, .int x2), (1, .int x1), (0, .ref (O 0))] → W p l e RM_holds s m args below meth cd H locs 0 0 Q (F0 m 145 ls [])) : ∀ (nn i : Nat), i ≤ 8 → 8 - i < nn → ∀ (H : Heap) (locs : List Loc) (ls : Array Slot), va_P D vwCl (List.flatten [clP cI cZ cS O k g a d w0 c f z V T n K G L v]) H → va_D A (List.flatten [clP cI cZ cS O k g a d w0 c f z V T n K G L v]) → va_S A s.heap H locs → lv_has ls 14 [(12, .int (nI i)), (11, .int (sm (fun e => b1 (ss (V 0) e = ss (V 0) j)) i)), (10, .int (fuI (V 0) j i)), (9, .int x9), (8, .int (V 0 6 j)), (7, .int (nI j)), (6, .int 1), (5, .int x5), (4, .int x4), (3, .int x3), (2, .int x2), (1, .int x1), (0, .ref (O 0))] → W p l e RM_holds s m args below meth cd H locs 0 0 Q (F0 m 56 ls []) := by
  obtain ⟨hx, hb, hml, hown, hts⟩ := id X
  intro nn
  induction nn with
  | zero => intro i hi hms; exact absurd hms (Nat.not_lt_zero _)
  | succ nn ih =>
    intro i hi hms H locs ls hP hD hS hl
    have hs1 := ss_le (V 0) i
    have hs2 := ss_le (V 0) j
    refine lv_iload hx hb dL_holds_56 (lv_at hl 0 rfl) ?_
    refine lv_bipush (v := 8) hx hb dL_holds_58 (by decide) ?_
    refine n_ge (i := i) (j := 8) (tgt := 145) hx hb (by omega) (by omega) dL_holds_60 (by decide) (fun c60 => ?_) (fun c60 => ?_)
    · skip
      obtain rfl : i = 8 := by omega
      exact kk _ _ _ hP hD hS (lv_sub hl [0, 1, 2, 3, 4, 5, 6, 7, 8, 9, 10, 11, 12] rfl)
    · skip
      refine lv_aload_n hx hb dL_holds_63 rfl (lv_at hl 12 rfl) ?_
      refine lv_iload hx hb dL_holds_64 (lv_at hl 0 rfl) ?_
      refine lv_bipush (v := 10) hx hb dL_holds_66 (by decide) ?_
      refine kcallVJ (U := Unit) (As := [.int (nI i), .int 10]) (rest := []) (Wr := []) (Wc := [clP cI cZ cS O k g a d w0 c f z V T n K G L v]) (Wo := fun u => [clP cI cZ cS O k g a d w0 c f z V T n K G L v]) X (k_balloon l D cI cZ cS cJ O k g a d w0 c f z V T n K G L v i 10 (by omega) (by omega)) (cwV 2 hts gL_holds_X6_balloon rfl rfl rfl (by decide +kernel) ⟨Nat.le_of_ble_eq_true rfl, Nat.le_of_ble_eq_true rfl⟩) hK hP hD hS hA 0 6 rfl rfl rfl hl.1 rfl (Nat.le_of_ble_eq_true rfl) dL_holds_68 ⟨Nat.le_of_ble_eq_true rfl, Nat.le_of_ble_eq_true rfl⟩ (fun u H locs hu hP hD hS => ?_)
      have hP : va_P D vwCl (List.flatten [clP cI cZ cS O k g a d w0 c f z V T n K G L v]) _ := hP
      have hD : va_D A (List.flatten [clP cI cZ cS O k g a d w0 c f z V T n K G L v]) := hD
      refine lv_eqi (y := nI (ss (V 0) i)) (rfl) ?_
      refine lv_aload_n hx hb dL_holds_71 rfl (lv_at hl 12 rfl) ?_
      refine lv_iload hx hb dL_holds_72 (lv_at hl 5 rfl) ?_
      refine lv_bipush (v := 10) hx hb dL_holds_74 (by decide) ?_
      refine kcallVJ (U := Unit) (As := [.int (nI j), .int 10]) (rest := [.int (nI (ss (V 0) i))]) (Wr := []) (Wc := [clP cI cZ cS O k g a d w0 c f z V T n K G L v]) (Wo := fun u => [clP cI cZ cS O k g a d w0 c f z V T n K G L v]) X (k_balloon l D cI cZ cS cJ O k g a d w0 c f z V T n K G L v j 10 (by omega) (by omega)) (cwV 2 hts gL_holds_X6_balloon rfl rfl rfl (by decide +kernel) ⟨Nat.le_of_ble_eq_true rfl, Nat.le_of_ble_eq_true rfl⟩) hK hP hD hS hA 0 6 rfl rfl rfl hl.1 rfl (Nat.le_of_ble_eq_true rfl) dL_holds_76 ⟨Nat.le_of_ble_eq_true rfl, Nat.le_of_ble_eq_true rfl⟩ (fun u H locs hu hP hD hS => ?_)
      have hP : va_P D vwCl (List.flatten [clP cI cZ cS O k g a d w0 c f z V T n K G L v]) _ := hP
      have hD : va_D A (List.flatten [clP cI cZ cS O k g a d w0 c f z V T n K G L v]) := hD
      refine lv_eqi (y := nI (ss (V 0) j)) (rfl) ?_
      have jn79 : W p l e RM_holds s m args below meth cd H locs 0 0 Q (F0 m 87 ls [.int (b1 (ss (V 0) i = ss (V 0) j))]) := by
        refine lv_istore (lv' := [(13, .int (b1 (ss (V 0) i = ss (V 0) j))), (12, .int (nI i)), (11, .int (sm (fun e => b1 (ss (V 0) e = ss (V 0) j)) i)), (10, .int (fuI (V 0) j i)), (9, .int x9), (8, .int (V 0 6 j)), (7, .int (nI j)), (6, .int 1), (5, .int x5), (4, .int x4), (3, .int x3), (2, .int x2), (1, .int x1), (0, .ref (O 0))]) hx hb dL_holds_87 hl (by decide) rfl (fun ls hl => ?_)
        refine lv_iload hx hb dL_holds_89 (lv_at hl 2 rfl) ?_
        refine lv_iload hx hb dL_holds_91 (lv_at hl 0 rfl) ?_
        have jn93 : W p l e RM_holds s m args below meth cd H locs 0 0 Q (F0 m 101 ls [.int (b1 (ss (V 0) i = ss (V 0) j)), .int (sm (fun e => b1 (ss (V 0) e = ss (V 0) j)) i)]) := by
          refine lv_iadd hx hb dL_holds_101 ?_
          refine lv_eqi (y := sm (fun e => b1 (ss (V 0) e = ss (V 0) j)) (i + 1)) (rfl) ?_
          refine lv_istore (lv' := [(11, .int (sm (fun e => b1 (ss (V 0) e = ss (V 0) j)) (i + 1))), (13, .int (b1 (ss (V 0) i = ss (V 0) j))), (12, .int (nI i)), (10, .int (fuI (V 0) j i)), (9, .int x9), (8, .int (V 0 6 j)), (7, .int (nI j)), (6, .int 1), (5, .int x5), (4, .int x4), (3, .int x3), (2, .int x2), (1, .int x1), (0, .ref (O 0))]) hx hb dL_holds_102 hl (by decide) rfl (fun ls hl => ?_)
          refine lv_iload hx hb dL_holds_104 (lv_at hl 3 rfl) ?_
          have jn106 : ∀ (H : Heap) (locs : List Loc), va_P D vwCl (List.flatten [clP cI cZ cS O k g a d w0 c f z V T n K G L v]) H → va_D A (List.flatten [clP cI cZ cS O k g a d w0 c f z V T n K G L v]) → va_S A s.heap H locs → W p l e RM_holds s m args below meth cd H locs 0 0 Q (F0 m 137 ls [.int (fuI (V 0) j (i + 1))]) := by
            intro H locs hP hD hS
            refine lv_istore (lv' := [(10, .int (fuI (V 0) j (i + 1))), (11, .int (sm (fun e => b1 (ss (V 0) e = ss (V 0) j)) (i + 1))), (13, .int (b1 (ss (V 0) i = ss (V 0) j))), (12, .int (nI i)), (9, .int x9), (8, .int (V 0 6 j)), (7, .int (nI j)), (6, .int 1), (5, .int x5), (4, .int x4), (3, .int x3), (2, .int x2), (1, .int x1), (0, .ref (O 0))]) hx hb dL_holds_137 hl (by decide) rfl (fun ls hl => ?_)
            refine lv_iinc (v := nI (i + 1)) (lv' := [(12, .int (nI (i + 1))), (10, .int (fuI (V 0) j (i + 1))), (11, .int (sm (fun e => b1 (ss (V 0) e = ss (V 0) j)) (i + 1))), (13, .int (b1 (ss (V 0) i = ss (V 0) j))), (9, .int x9), (8, .int (V 0 6 j)), (7, .int (nI j)), (6, .int 1), (5, .int x5), (4, .int x4), (3, .int x3), (2, .int x2), (1, .int x1), (0, .ref (O 0))]) hx hb dL_holds_139 hl (k := 3) rfl (nI_add _ _) (by decide) rfl (fun ls hl => ?_)
            refine lv_goto (tgt := 56) hx hb dL_holds_142 (by decide) ?_
            exact ih (i + 1) (by omega) (by omega) _ _ _ hP hD hS (lv_sub hl [0, 2, 1, 4, 5, 6, 7, 8, 9, 10, 11, 12, 13] rfl)
          refine lv_if_ne (tgt := 132) hx hb dL_holds_106 (by decide) (fun c106 => ?_) (fun c106 => ?_)
          · skip
            refine lv_iconst (v := 1) hx hb dL_holds_132 (by decide) ?_
            refine lv_goto (tgt := 137) hx hb dL_holds_133 (by decide) ?_
            refine lv_eqi (y := fuI (V 0) j (i + 1)) (fu_1 c106) ?_
            exact jn106 _ _ hP hD hS
          · skip
            refine lv_iload hx hb dL_holds_109 (lv_at hl 1 rfl) ?_
            refine lv_if_eq (tgt := 136) hx hb dL_holds_111 (by decide) (fun c111 => ?_) (fun c111 => ?_)
            · skip
              refine lv_iconst (v := 0) hx hb dL_holds_136 (by decide) ?_
              refine lv_eqi (y := fuI (V 0) j (i + 1)) (fu_3 c106 (fun q9 => absurd (c111.symm.trans (if_pos q9)) (by decide))) ?_
              exact jn106 _ _ hP hD hS
            · skip
              refine lv_aload_n hx hb dL_holds_114 rfl (lv_at hl 13 rfl) ?_
              refine lv_iload hx hb dL_holds_115 (lv_at hl 2 rfl) ?_
              refine lv_bipush (v := 6) hx hb dL_holds_117 (by decide) ?_
              refine kcallVJ (U := Unit) (As := [.int (nI i), .int 6]) (rest := []) (Wr := []) (Wc := [clP cI cZ cS O k g a d w0 c f z V T n K G L v]) (Wo := fun u => [clP cI cZ cS O k g a d w0 c f z V T n K G L v]) X (k_balloon l D cI cZ cS cJ O k g a d w0 c f z V T n K G L v i 6 (by omega) (by omega)) (cwV 2 hts gL_holds_X6_balloon rfl rfl rfl (by decide +kernel) ⟨Nat.le_of_ble_eq_true rfl, Nat.le_of_ble_eq_true rfl⟩) hK hP hD hS hA 0 6 rfl rfl rfl hl.1 rfl (Nat.le_of_ble_eq_true rfl) dL_holds_119 ⟨Nat.le_of_ble_eq_true rfl, Nat.le_of_ble_eq_true rfl⟩ (fun u H locs hu hP hD hS => ?_)
              have hP : va_P D vwCl (List.flatten [clP cI cZ cS O k g a d w0 c f z V T n K G L v]) _ := hP
              have hD : va_D A (List.flatten [clP cI cZ cS O k g a d w0 c f z V T n K G L v]) := hD
              refine lv_eqi (y := V 0 6 i) (hb6 hO (by omega)) ?_
              refine lv_aload_n hx hb dL_holds_122 rfl (lv_at hl 13 rfl) ?_
              refine lv_iload hx hb dL_holds_123 (lv_at hl 2 rfl) ?_
              refine lv_iconst (v := 4) hx hb dL_holds_125 (by decide) ?_
              refine kcallVJ (U := Unit) (As := [.int (nI i), .int 4]) (rest := [.int (V 0 6 i)]) (Wr := []) (Wc := [clP cI cZ cS O k g a d w0 c f z V T n K G L v]) (Wo := fun u => [clP cI cZ cS O k g a d w0 c f z V T n K G L v]) X (k_balloon l D cI cZ cS cJ O k g a d w0 c f z V T n K G L v i 4 (by omega) (by omega)) (cwV 2 hts gL_holds_X6_balloon rfl rfl rfl (by decide +kernel) ⟨Nat.le_of_ble_eq_true rfl, Nat.le_of_ble_eq_true rfl⟩) hK hP hD hS hA 0 6 rfl rfl rfl hl.1 rfl (Nat.le_of_ble_eq_true rfl) dL_holds_126 ⟨Nat.le_of_ble_eq_true rfl, Nat.le_of_ble_eq_true rfl⟩ (fun u H locs hu hP hD hS => ?_)
              have hP : va_P D vwCl (List.flatten [clP cI cZ cS O k g a d w0 c f z V T n K G L v]) _ := hP
              have hD : va_D A (List.flatten [clP cI cZ cS O k g a d w0 c f z V T n K G L v]) := hD
              refine lv_eqi (y := wt (V 0) i) (rfl) ?_
              refine lv_icmp_ne (tgt := 136) hx hb dL_holds_129 (by decide) (fun c129 => ?_) (fun c129 => ?_)
              · skip
                refine lv_iconst (v := 0) hx hb dL_holds_136 (by decide) ?_
                refine lv_eqi (y := fuI (V 0) j (i + 1)) (fu_4 c106 c129) ?_
                exact jn106 _ _ hP hD hS
              · skip
                refine lv_iconst (v := 1) hx hb dL_holds_132 (by decide) ?_
                refine lv_goto (tgt := 137) hx hb dL_holds_133 (by decide) ?_
                refine lv_eqi (y := fuI (V 0) j (i + 1)) (fu_2 c106 (b1_e ((b1_01 _).resolve_left c111)) c129) ?_
                exact jn106 _ _ hP hD hS
        refine lv_if_eq (tgt := 100) hx hb dL_holds_93 (by decide) (fun c93 => ?_) (fun c93 => ?_)
        · skip
          refine lv_iconst (v := 0) hx hb dL_holds_100 (by decide) ?_
          refine lv_eqi (y := b1 (ss (V 0) i = ss (V 0) j)) (c93.symm) ?_
          exact jn93
        · skip
          refine lv_iconst (v := 1) hx hb dL_holds_96 (by decide) ?_
          refine lv_goto (tgt := 101) hx hb dL_holds_97 (by decide) ?_
          refine lv_eqi (y := b1 (ss (V 0) i = ss (V 0) j)) (b1_1 c93) ?_
          exact jn93
      refine n_ne (i := ss (V 0) i) (j := ss (V 0) j) (tgt := 86) hx hb (by omega) (by omega) dL_holds_79 (by decide) (fun c79 => ?_) (fun c79 => ?_)
      · skip
        refine lv_iconst (v := 0) hx hb dL_holds_86 (by decide) ?_
        refine lv_eqi (y := b1 (ss (V 0) i = ss (V 0) j)) (b1_n c79) ?_
        exact jn79
      · skip
        refine lv_iconst (v := 1) hx hb dL_holds_82 (by decide) ?_
        refine lv_goto (tgt := 87) hx hb dL_holds_83 (by decide) ?_
        refine lv_eqi (y := b1 (ss (V 0) i = ss (V 0) j)) (b1_y c79) ?_
        exact jn79

set_option maxHeartbeats 4000000 in
set_option maxRecDepth 100000 in
theorem hd_1 {p : Program} {e : Env} {s : State} {m : MethodId} {args : Array Value} {below : List Frame} {meth : Method} {cd : Code} {Q : State → Prop} {A : Nat → Prop} (l : Launch) (D : va_G) (cI cZ cS cJ : ClassId) (X : CallFix p m cd cL_holds 14 s args wsL_holds RL) (hK : va_K D vwCl (tyL cI cZ cS cJ) s) (hA : ∀ q, s.heap.size ≤ q → A q) (O k g a d : Nat → Nat) (w0 : Int32) (c : Nat → Nat → Nat) (f : Nat → Option Nat) (z : Nat) (V : Nat → Nat → Nat → Int32) (T : Nat → Int32) (n : Nat) (K G : Nat → Nat → Int32) (L : Nat → Int32) (v : Int32) (hO : OK (V 0)) (L8 : Nat → Int32) (hL8 : Lnd (V 0) 200 = L8) (kk : ∀ (K G : Nat → Nat → Int32) (L : Nat → Int32) (v : Int32) (H : Heap) (locs : List Loc) (ls : Array Slot), va_P D vwCl (List.flatten [clP cI cZ cS O k g a d w0 c f z V T n K G L v]) H → va_D A (List.flatten [clP cI cZ cS O k g a d w0 c f z V T n K G L v]) → va_S A s.heap H locs → lv_has ls 14 [(7, .int (nI 8)), (6, .int 1), (5, .int (sm (fun q => b1 (ss (V 0) q = q)) 8)), (4, .int 0), (3, .int (sm (fun q => b1 (V 0 6 q = 0)) 8)), (2, .int (sm (V 0 6) 8)), (1, .int (sm (V 0 0) 8)), (0, .ref (O 0))] → W p l e RM_holds s m args below meth cd H locs 0 0 Q (F0 m 453 ls [])) : ∀ (nn j : Nat), j ≤ 8 → 8 - j < nn → ∀ (K G : Nat → Nat → Int32) (L : Nat → Int32) (v : Int32) (H : Heap) (locs : List Loc) (ls : Array Slot), va_P D vwCl (List.flatten [clP cI cZ cS O k g a d w0 c f z V T n K G L v]) H → va_D A (List.flatten [clP cI cZ cS O k g a d w0 c f z V T n K G L v]) → va_S A s.heap H locs → lv_has ls 14 [(7, .int (nI j)), (6, .int 1), (5, .int (sm (fun q => b1 (ss (V 0) q = q)) j)), (4, .int 0), (3, .int (sm (fun q => b1 (V 0 6 q = 0)) j)), (2, .int (sm (V 0 6) j)), (1, .int (sm (V 0 0) j)), (0, .ref (O 0))] → W p l e RM_holds s m args below meth cd H locs 0 0 Q (F0 m 18 ls []) := by
  obtain ⟨hx, hb, hml, hown, hts⟩ := id X
  intro nn
  induction nn with
  | zero => intro j hj hms; exact absurd hms (Nat.not_lt_zero _)
  | succ nn ih =>
    intro j hj hms K G L v H locs ls hP hD hS hl
    have hs2 := ss_le (V 0) j
    refine lv_iload hx hb dL_holds_18 (lv_at hl 0 rfl) ?_
    refine lv_bipush (v := 8) hx hb dL_holds_20 (by decide) ?_
    refine n_ge (i := j) (j := 8) (tgt := 453) hx hb (by omega) (by omega) dL_holds_22 (by decide) (fun c22 => ?_) (fun c22 => ?_)
    · skip
      obtain rfl : j = 8 := by omega
      exact kk _ _ _ _ _ _ _ hP hD hS (lv_sub hl [0, 1, 2, 3, 4, 5, 6, 7] rfl)
    · skip
      refine lv_aload_n hx hb dL_holds_25 rfl (lv_at hl 7 rfl) ?_
      refine lv_iload hx hb dL_holds_26 (lv_at hl 0 rfl) ?_
      refine lv_bipush (v := 6) hx hb dL_holds_28 (by decide) ?_
      refine kcallVJ (U := Unit) (As := [.int (nI j), .int 6]) (rest := []) (Wr := []) (Wc := [clP cI cZ cS O k g a d w0 c f z V T n K G L v]) (Wo := fun u => [clP cI cZ cS O k g a d w0 c f z V T n K G L v]) X (k_balloon l D cI cZ cS cJ O k g a d w0 c f z V T n K G L v j 6 (by omega) (by omega)) (cwV 2 hts gL_holds_X6_balloon rfl rfl rfl (by decide +kernel) ⟨Nat.le_of_ble_eq_true rfl, Nat.le_of_ble_eq_true rfl⟩) hK hP hD hS hA 0 6 rfl rfl rfl hl.1 rfl (Nat.le_of_ble_eq_true rfl) dL_holds_30 ⟨Nat.le_of_ble_eq_true rfl, Nat.le_of_ble_eq_true rfl⟩ (fun u H locs hu hP hD hS => ?_)
      have hP : va_P D vwCl (List.flatten [clP cI cZ cS O k g a d w0 c f z V T n K G L v]) _ := hP
      have hD : va_D A (List.flatten [clP cI cZ cS O k g a d w0 c f z V T n K G L v]) := hD
      refine lv_eqi (y := V 0 6 j) (hb6 hO (by omega)) ?_
      refine lv_istore (lv' := [(8, .int (V 0 6 j)), (7, .int (nI j)), (6, .int 1), (5, .int (sm (fun q => b1 (ss (V 0) q = q)) j)), (4, .int 0), (3, .int (sm (fun q => b1 (V 0 6 q = 0)) j)), (2, .int (sm (V 0 6) j)), (1, .int (sm (V 0 0) j)), (0, .ref (O 0))]) hx hb dL_holds_33 hl (by decide) rfl (fun ls hl => ?_)
      refine lv_bipush (v := 10) hx hb dL_holds_35 (by decide) ?_
      refine lv_aload_n hx hb dL_holds_37 rfl (lv_at hl 8 rfl) ?_
      refine lv_iload hx hb dL_holds_38 (lv_at hl 1 rfl) ?_
      refine lv_iconst (v := 3) hx hb dL_holds_40 (by decide) ?_
      refine kcallVJ (U := Unit) (As := [.int (nI j), .int 3]) (rest := [.int 10]) (Wr := []) (Wc := [clP cI cZ cS O k g a d w0 c f z V T n K G L v]) (Wo := fun u => [clP cI cZ cS O k g a d w0 c f z V T n K G L v]) X (k_balloon l D cI cZ cS cJ O k g a d w0 c f z V T n K G L v j 3 (by omega) (by omega)) (cwV 2 hts gL_holds_X6_balloon rfl rfl rfl (by decide +kernel) ⟨Nat.le_of_ble_eq_true rfl, Nat.le_of_ble_eq_true rfl⟩) hK hP hD hS hA 0 6 rfl rfl rfl hl.1 rfl (Nat.le_of_ble_eq_true rfl) dL_holds_41 ⟨Nat.le_of_ble_eq_true rfl, Nat.le_of_ble_eq_true rfl⟩ (fun u H locs hu hP hD hS => ?_)
      have hP : va_P D vwCl (List.flatten [clP cI cZ cS O k g a d w0 c f z V T n K G L v]) _ := hP
      have hD : va_D A (List.flatten [clP cI cZ cS O k g a d w0 c f z V T n K G L v]) := hD
      refine lv_eqi (y := lift (V 0) j) (rfl) ?_
      refine lv_imul hx hb dL_holds_44 ?_
      refine lv_istore (lv' := [(9, .int (10 * (lift (V 0) j))), (8, .int (V 0 6 j)), (7, .int (nI j)), (6, .int 1), (5, .int (sm (fun q => b1 (ss (V 0) q = q)) j)), (4, .int 0), (3, .int (sm (fun q => b1 (V 0 6 q = 0)) j)), (2, .int (sm (V 0 6) j)), (1, .int (sm (V 0 0) j)), (0, .ref (O 0))]) hx hb dL_holds_45 hl (by decide) rfl (fun ls hl => ?_)
      refine lv_iconst (v := 0) hx hb dL_holds_47 (by decide) ?_
      refine lv_istore (lv' := [(10, .int 0), (9, .int (10 * (lift (V 0) j))), (8, .int (V 0 6 j)), (7, .int (nI j)), (6, .int 1), (5, .int (sm (fun q => b1 (ss (V 0) q = q)) j)), (4, .int 0), (3, .int (sm (fun q => b1 (V 0 6 q = 0)) j)), (2, .int (sm (V 0 6) j)), (1, .int (sm (V 0 0) j)), (0, .ref (O 0))]) hx hb dL_holds_48 hl (by decide) rfl (fun ls hl => ?_)
      refine lv_iconst (v := 0) hx hb dL_holds_50 (by decide) ?_
      refine lv_istore (lv' := [(11, .int 0), (10, .int 0), (9, .int (10 * (lift (V 0) j))), (8, .int (V 0 6 j)), (7, .int (nI j)), (6, .int 1), (5, .int (sm (fun q => b1 (ss (V 0) q = q)) j)), (4, .int 0), (3, .int (sm (fun q => b1 (V 0 6 q = 0)) j)), (2, .int (sm (V 0 6) j)), (1, .int (sm (V 0 0) j)), (0, .ref (O 0))]) hx hb dL_holds_51 hl (by decide) rfl (fun ls hl => ?_)
      refine lv_iconst (v := 0) hx hb dL_holds_53 (by decide) ?_
      refine lv_istore (lv' := [(12, .int 0), (11, .int 0), (10, .int 0), (9, .int (10 * (lift (V 0) j))), (8, .int (V 0 6 j)), (7, .int (nI j)), (6, .int 1), (5, .int (sm (fun q => b1 (ss (V 0) q = q)) j)), (4, .int 0), (3, .int (sm (fun q => b1 (V 0 6 q = 0)) j)), (2, .int (sm (V 0 6) j)), (1, .int (sm (V 0 0) j)), (0, .ref (O 0))]) hx hb dL_holds_54 hl (by decide) rfl (fun ls hl => ?_)
      have hl : lv_has ls 14 [(12, .int 0), (11, .int 0), (10, .int (fuI (V 0) j 0)), (9, .int (10 * (lift (V 0) j))), (8, .int (V 0 6 j)), (7, .int (nI j)), (6, .int 1), (5, .int (sm (fun q => b1 (ss (V 0) q = q)) j)), (4, .int 0), (3, .int (sm (fun q => b1 (V 0 6 q = 0)) j)), (2, .int (sm (V 0 6) j)), (1, .int (sm (V 0 0) j)), (0, .ref (O 0))] := lv_re hl 2 (x := 0) (y := fuI (V 0) j 0) rfl (rfl) rfl
      have hl : lv_has ls 14 [(12, .int 0), (11, .int (sm (fun e => b1 (ss (V 0) e = ss (V 0) j)) 0)), (10, .int (fuI (V 0) j 0)), (9, .int (10 * (lift (V 0) j))), (8, .int (V 0 6 j)), (7, .int (nI j)), (6, .int 1), (5, .int (sm (fun q => b1 (ss (V 0) q = q)) j)), (4, .int 0), (3, .int (sm (fun q => b1 (V 0 6 q = 0)) j)), (2, .int (sm (V 0 6) j)), (1, .int (sm (V 0 0) j)), (0, .ref (O 0))] := lv_re hl 1 (x := 0) (y := sm (fun e => b1 (ss (V 0) e = ss (V 0) j)) 0) rfl (rfl) rfl
      have hl : lv_has ls 14 [(12, .int (nI 0)), (11, .int (sm (fun e => b1 (ss (V 0) e = ss (V 0) j)) 0)), (10, .int (fuI (V 0) j 0)), (9, .int (10 * (lift (V 0) j))), (8, .int (V 0 6 j)), (7, .int (nI j)), (6, .int 1), (5, .int (sm (fun q => b1 (ss (V 0) q = q)) j)), (4, .int 0), (3, .int (sm (fun q => b1 (V 0 6 q = 0)) j)), (2, .int (sm (V 0 6) j)), (1, .int (sm (V 0 0) j)), (0, .ref (O 0))] := lv_re hl 0 (x := 0) (y := nI 0) rfl (rfl) rfl
      refine hd_in l D cI cZ cS cJ X hK hA O k g a d w0 c f z V T n K G L v hO j (by omega) _ _ _ _ _ _ (fun H locs ls hP hD hS hl => ?_) 9 0 (by omega) (by omega) _ _ _ hP hD hS (lv_sub hl [0, 1, 2, 3, 4, 5, 6, 7, 8, 9, 10, 11, 12] rfl)
      have hP : va_P D vwCl (List.flatten [clP cI cZ cS O k g a d w0 c f z V T n K G L v]) _ := hP
      have hD : va_D A (List.flatten [clP cI cZ cS O k g a d w0 c f z V T n K G L v]) := hD
      have hl : lv_has ls 14 [(12, .int (nI 8)), (11, .int (sm (fun e => b1 (ss (V 0) e = ss (V 0) j)) 8)), (10, .int (fuI (V 0) j 8)), (9, .int (10 * (lift (V 0) j))), (8, .int (V 0 6 j)), (7, .int (nI j)), (6, .int 1), (5, .int (sm (fun q => b1 (ss (V 0) q = q)) j)), (4, .int 0), (3, .int (sm (fun q => b1 (V 0 6 q = 0)) j)), (2, .int (sm (V 0 6) j)), (1, .int (sm (V 0 0) j)), (0, .ref (O 0))] := hl
      have hl : lv_has ls 14 [(12, .int (nI 8)), (11, .int (sm (fun e => b1 (ss (V 0) e = ss (V 0) j)) 8)), (10, .int 1), (9, .int (10 * (lift (V 0) j))), (8, .int (V 0 6 j)), (7, .int (nI j)), (6, .int 1), (5, .int (sm (fun q => b1 (ss (V 0) q = q)) j)), (4, .int 0), (3, .int (sm (fun q => b1 (V 0 6 q = 0)) j)), (2, .int (sm (V 0 6) j)), (1, .int (sm (V 0 0) j)), (0, .ref (O 0))] := lv_re hl 2 (x := fuI (V 0) j 8) (y := 1) rfl (fu_all hO (by omega)) rfl
      have hl : lv_has ls 14 [(12, .int (nI 8)), (11, .int (nI (se (V 0) (7 - j) j - ss (V 0) j + 1))), (10, .int 1), (9, .int (10 * (lift (V 0) j))), (8, .int (V 0 6 j)), (7, .int (nI j)), (6, .int 1), (5, .int (sm (fun q => b1 (ss (V 0) q = q)) j)), (4, .int 0), (3, .int (sm (fun q => b1 (V 0 6 q = 0)) j)), (2, .int (sm (V 0 6) j)), (1, .int (sm (V 0 0) j)), (0, .ref (O 0))] := lv_re hl 1 (x := sm (fun e => b1 (ss (V 0) e = ss (V 0) j)) 8) (y := nI (se (V 0) (7 - j) j - ss (V 0) j + 1)) rfl (same (by omega)) rfl
      refine lv_iload_n hx hb dL_holds_145 rfl (lv_at hl 11 rfl) ?_
      refine lv_aload_n hx hb dL_holds_146 rfl (lv_at hl 12 rfl) ?_
      refine lv_iload hx hb dL_holds_147 (lv_at hl 5 rfl) ?_
      refine lv_iconst (v := 0) hx hb dL_holds_149 (by decide) ?_
      refine kcallVJ (U := Unit) (As := [.int (nI j), .int 0]) (rest := [.int (sm (V 0 0) j)]) (Wr := []) (Wc := [clP cI cZ cS O k g a d w0 c f z V T n K G L v]) (Wo := fun u => [clP cI cZ cS O k g a d w0 c f z V T n K G L v]) X (k_balloon l D cI cZ cS cJ O k g a d w0 c f z V T n K G L v j 0 (by omega) (by omega)) (cwV 2 hts gL_holds_X6_balloon rfl rfl rfl (by decide +kernel) ⟨Nat.le_of_ble_eq_true rfl, Nat.le_of_ble_eq_true rfl⟩) hK hP hD hS hA 0 6 rfl rfl rfl hl.1 rfl (Nat.le_of_ble_eq_true rfl) dL_holds_150 ⟨Nat.le_of_ble_eq_true rfl, Nat.le_of_ble_eq_true rfl⟩ (fun u H locs hu hP hD hS => ?_)
      have hP : va_P D vwCl (List.flatten [clP cI cZ cS O k g a d w0 c f z V T n K G L v]) _ := hP
      have hD : va_D A (List.flatten [clP cI cZ cS O k g a d w0 c f z V T n K G L v]) := hD
      refine lv_eqi (y := V 0 0 j) (rfl) ?_
      refine lv_iadd hx hb dL_holds_153 ?_
      refine lv_eqi (y := sm (V 0 0) (j + 1)) (rfl) ?_
      refine lv_istore_n (lv' := [(1, .int (sm (V 0 0) (j + 1))), (12, .int (nI 8)), (11, .int (nI (se (V 0) (7 - j) j - ss (V 0) j + 1))), (10, .int 1), (9, .int (10 * (lift (V 0) j))), (8, .int (V 0 6 j)), (7, .int (nI j)), (6, .int 1), (5, .int (sm (fun q => b1 (ss (V 0) q = q)) j)), (4, .int 0), (3, .int (sm (fun q => b1 (V 0 6 q = 0)) j)), (2, .int (sm (V 0 6) j)), (0, .ref (O 0))]) hx hb dL_holds_154 rfl hl (by decide) rfl (fun ls hl => ?_)
      refine lv_iload_n hx hb dL_holds_155 rfl (lv_at hl 11 rfl) ?_
      refine lv_iload hx hb dL_holds_156 (lv_at hl 5 rfl) ?_
      refine lv_iadd hx hb dL_holds_158 ?_
      refine lv_eqi (y := sm (V 0 6) (j + 1)) (rfl) ?_
      refine lv_istore_n (lv' := [(2, .int (sm (V 0 6) (j + 1))), (1, .int (sm (V 0 0) (j + 1))), (12, .int (nI 8)), (11, .int (nI (se (V 0) (7 - j) j - ss (V 0) j + 1))), (10, .int 1), (9, .int (10 * (lift (V 0) j))), (8, .int (V 0 6 j)), (7, .int (nI j)), (6, .int 1), (5, .int (sm (fun q => b1 (ss (V 0) q = q)) j)), (4, .int 0), (3, .int (sm (fun q => b1 (V 0 6 q = 0)) j)), (0, .ref (O 0))]) hx hb dL_holds_159 rfl hl (by decide) rfl (fun ls hl => ?_)
      refine lv_iload_n hx hb dL_holds_160 rfl (lv_at hl 11 rfl) ?_
      refine lv_iload hx hb dL_holds_161 (lv_at hl 6 rfl) ?_
      have jn163 : W p l e RM_holds s m args below meth cd H locs 0 0 Q (F0 m 171 ls [.int (b1 (V 0 6 j = 0)), .int (sm (fun q => b1 (V 0 6 q = 0)) j)]) := by
        refine lv_iadd hx hb dL_holds_171 ?_
        refine lv_eqi (y := sm (fun q => b1 (V 0 6 q = 0)) (j + 1)) (rfl) ?_
        refine lv_istore_n (lv' := [(3, .int (sm (fun q => b1 (V 0 6 q = 0)) (j + 1))), (2, .int (sm (V 0 6) (j + 1))), (1, .int (sm (V 0 0) (j + 1))), (12, .int (nI 8)), (11, .int (nI (se (V 0) (7 - j) j - ss (V 0) j + 1))), (10, .int 1), (9, .int (10 * (lift (V 0) j))), (8, .int (V 0 6 j)), (7, .int (nI j)), (6, .int 1), (5, .int (sm (fun q => b1 (ss (V 0) q = q)) j)), (4, .int 0), (0, .ref (O 0))]) hx hb dL_holds_172 rfl hl (by decide) rfl (fun ls hl => ?_)
        refine lv_iload hx hb dL_holds_173 (lv_at hl 10 rfl) ?_
        refine lv_aload_n hx hb dL_holds_175 rfl (lv_at hl 12 rfl) ?_
        refine lv_iload hx hb dL_holds_176 (lv_at hl 8 rfl) ?_
        refine lv_bipush (v := 10) hx hb dL_holds_178 (by decide) ?_
        refine kcallVJ (U := Unit) (As := [.int (nI j), .int 10]) (rest := [.int (sm (fun q => b1 (ss (V 0) q = q)) j)]) (Wr := []) (Wc := [clP cI cZ cS O k g a d w0 c f z V T n K G L v]) (Wo := fun u => [clP cI cZ cS O k g a d w0 c f z V T n K G L v]) X (k_balloon l D cI cZ cS cJ O k g a d w0 c f z V T n K G L v j 10 (by omega) (by omega)) (cwV 2 hts gL_holds_X6_balloon rfl rfl rfl (by decide +kernel) ⟨Nat.le_of_ble_eq_true rfl, Nat.le_of_ble_eq_true rfl⟩) hK hP hD hS hA 0 6 rfl rfl rfl hl.1 rfl (Nat.le_of_ble_eq_true rfl) dL_holds_180 ⟨Nat.le_of_ble_eq_true rfl, Nat.le_of_ble_eq_true rfl⟩ (fun u H locs hu hP hD hS => ?_)
        have hP : va_P D vwCl (List.flatten [clP cI cZ cS O k g a d w0 c f z V T n K G L v]) _ := hP
        have hD : va_D A (List.flatten [clP cI cZ cS O k g a d w0 c f z V T n K G L v]) := hD
        refine lv_eqi (y := nI (ss (V 0) j)) (rfl) ?_
        refine lv_iload hx hb dL_holds_183 (lv_at hl 8 rfl) ?_
        have jn185 : W p l e RM_holds s m args below meth cd H locs 0 0 Q (F0 m 193 ls [.int (b1 (ss (V 0) j = j)), .int (sm (fun q => b1 (ss (V 0) q = q)) j)]) := by
          refine lv_iadd hx hb dL_holds_193 ?_
          refine lv_eqi (y := sm (fun q => b1 (ss (V 0) q = q)) (j + 1)) (rfl) ?_
          refine lv_istore (lv' := [(5, .int (sm (fun q => b1 (ss (V 0) q = q)) (j + 1))), (3, .int (sm (fun q => b1 (V 0 6 q = 0)) (j + 1))), (2, .int (sm (V 0 6) (j + 1))), (1, .int (sm (V 0 0) (j + 1))), (12, .int (nI 8)), (11, .int (nI (se (V 0) (7 - j) j - ss (V 0) j + 1))), (10, .int 1), (9, .int (10 * (lift (V 0) j))), (8, .int (V 0 6 j)), (7, .int (nI j)), (6, .int 1), (4, .int 0), (0, .ref (O 0))]) hx hb dL_holds_194 hl (by decide) rfl (fun ls hl => ?_)
          refine lv_iload hx hb dL_holds_196 (lv_at hl 10 rfl) ?_
          refine lv_if_eq (tgt := 334) hx hb dL_holds_198 (by decide) (fun h => absurd h (by decide)) (fun _ => ?_)
          refine lv_iload hx hb dL_holds_201 (lv_at hl 6 rfl) ?_
          refine lv_if_eq (tgt := 334) hx hb dL_holds_203 (by decide) (fun h => absurd h (by decide)) (fun _ => ?_)
          refine lv_iload hx hb dL_holds_206 (lv_at hl 5 rfl) ?_
          refine lv_aload_n hx hb dL_holds_208 rfl (lv_at hl 12 rfl) ?_
          refine lv_iload hx hb dL_holds_209 (lv_at hl 9 rfl) ?_
          refine lv_bipush (v := 11) hx hb dL_holds_211 (by decide) ?_
          refine kcallVJ (U := Unit) (As := [.int (nI j), .int 11]) (rest := [.int (nI (se (V 0) (7 - j) j - ss (V 0) j + 1))]) (Wr := []) (Wc := [clP cI cZ cS O k g a d w0 c f z V T n K G L v]) (Wo := fun u => [clP cI cZ cS O k g a d w0 c f z V T n K G L v]) X (k_balloon l D cI cZ cS cJ O k g a d w0 c f z V T n K G L v j 11 (by omega) (by omega)) (cwV 2 hts gL_holds_X6_balloon rfl rfl rfl (by decide +kernel) ⟨Nat.le_of_ble_eq_true rfl, Nat.le_of_ble_eq_true rfl⟩) hK hP hD hS hA 0 6 rfl rfl rfl hl.1 rfl (Nat.le_of_ble_eq_true rfl) dL_holds_213 ⟨Nat.le_of_ble_eq_true rfl, Nat.le_of_ble_eq_true rfl⟩ (fun u H locs hu hP hD hS => ?_)
          have hP : va_P D vwCl (List.flatten [clP cI cZ cS O k g a d w0 c f z V T n K G L v]) _ := hP
          have hD : va_D A (List.flatten [clP cI cZ cS O k g a d w0 c f z V T n K G L v]) := hD
          refine lv_eqi (y := nI (se (V 0) (7 - j) j - ss (V 0) j + 1)) (rfl) ?_
          refine lv_icmp_ne (tgt := 334) hx hb dL_holds_216 (by decide) (fun h => absurd rfl h) (fun _ => ?_)
          refine lv_aload_n hx hb dL_holds_219 rfl (lv_at hl 12 rfl) ?_
          refine lv_iload hx hb dL_holds_220 (lv_at hl 9 rfl) ?_
          refine lv_iconst (v := 5) hx hb dL_holds_222 (by decide) ?_
          refine kcallVJ (U := Unit) (As := [.int (nI j), .int 5]) (rest := []) (Wr := []) (Wc := [clP cI cZ cS O k g a d w0 c f z V T n K G L v]) (Wo := fun u => [clP cI cZ cS O k g a d w0 c f z V T n K G L v]) X (k_balloon l D cI cZ cS cJ O k g a d w0 c f z V T n K G L v j 5 (by omega) (by omega)) (cwV 2 hts gL_holds_X6_balloon rfl rfl rfl (by decide +kernel) ⟨Nat.le_of_ble_eq_true rfl, Nat.le_of_ble_eq_true rfl⟩) hK hP hD hS hA 0 6 rfl rfl rfl hl.1 rfl (Nat.le_of_ble_eq_true rfl) dL_holds_223 ⟨Nat.le_of_ble_eq_true rfl, Nat.le_of_ble_eq_true rfl⟩ (fun u H locs hu hP hD hS => ?_)
          have hP : va_P D vwCl (List.flatten [clP cI cZ cS O k g a d w0 c f z V T n K G L v]) _ := hP
          have hD : va_D A (List.flatten [clP cI cZ cS O k g a d w0 c f z V T n K G L v]) := hD
          refine lv_eqi (y := V 0 6 j) (rfl) ?_
          refine lv_iload hx hb dL_holds_226 (lv_at hl 8 rfl) ?_
          refine lv_icmp_ne (tgt := 334) hx hb dL_holds_228 (by decide) (fun h => absurd rfl h) (fun _ => ?_)
          refine lv_iload hx hb dL_holds_231 (lv_at hl 8 rfl) ?_
          refine lv_if_lt (tgt := 334) hx hb dL_holds_233 (by decide) (fun h => absurd h (h6_nn hO (by omega))) (fun _ => ?_)
          refine lv_iload hx hb dL_holds_236 (lv_at hl 8 rfl) ?_
          refine lv_aload_n hx hb dL_holds_238 rfl (lv_at hl 12 rfl) ?_
          refine lv_iload hx hb dL_holds_239 (lv_at hl 9 rfl) ?_
          refine lv_iconst (v := 4) hx hb dL_holds_241 (by decide) ?_
          refine kcallVJ (U := Unit) (As := [.int (nI j), .int 4]) (rest := [.int (V 0 6 j)]) (Wr := []) (Wc := [clP cI cZ cS O k g a d w0 c f z V T n K G L v]) (Wo := fun u => [clP cI cZ cS O k g a d w0 c f z V T n K G L v]) X (k_balloon l D cI cZ cS cJ O k g a d w0 c f z V T n K G L v j 4 (by omega) (by omega)) (cwV 2 hts gL_holds_X6_balloon rfl rfl rfl (by decide +kernel) ⟨Nat.le_of_ble_eq_true rfl, Nat.le_of_ble_eq_true rfl⟩) hK hP hD hS hA 0 6 rfl rfl rfl hl.1 rfl (Nat.le_of_ble_eq_true rfl) dL_holds_242 ⟨Nat.le_of_ble_eq_true rfl, Nat.le_of_ble_eq_true rfl⟩ (fun u H locs hu hP hD hS => ?_)
          have hP : va_P D vwCl (List.flatten [clP cI cZ cS O k g a d w0 c f z V T n K G L v]) _ := hP
          have hD : va_D A (List.flatten [clP cI cZ cS O k g a d w0 c f z V T n K G L v]) := hD
          refine lv_eqi (y := wt (V 0) j) (rfl) ?_
          refine lv_icmp_gt (tgt := 334) hx hb dL_holds_245 (by decide) (fun h => absurd h (Int32.not_lt.mpr (h6_wt hO (by omega)))) (fun _ => ?_)
          refine lv_aload_n hx hb dL_holds_248 rfl (lv_at hl 12 rfl) ?_
          refine lv_iload hx hb dL_holds_249 (lv_at hl 9 rfl) ?_
          refine lv_iconst (v := 4) hx hb dL_holds_251 (by decide) ?_
          refine kcallVJ (U := Unit) (As := [.int (nI j), .int 4]) (rest := []) (Wr := []) (Wc := [clP cI cZ cS O k g a d w0 c f z V T n K G L v]) (Wo := fun u => [clP cI cZ cS O k g a d w0 c f z V T n K G L v]) X (k_balloon l D cI cZ cS cJ O k g a d w0 c f z V T n K G L v j 4 (by omega) (by omega)) (cwV 2 hts gL_holds_X6_balloon rfl rfl rfl (by decide +kernel) ⟨Nat.le_of_ble_eq_true rfl, Nat.le_of_ble_eq_true rfl⟩) hK hP hD hS hA 0 6 rfl rfl rfl hl.1 rfl (Nat.le_of_ble_eq_true rfl) dL_holds_252 ⟨Nat.le_of_ble_eq_true rfl, Nat.le_of_ble_eq_true rfl⟩ (fun u H locs hu hP hD hS => ?_)
          have hP : va_P D vwCl (List.flatten [clP cI cZ cS O k g a d w0 c f z V T n K G L v]) _ := hP
          have hD : va_D A (List.flatten [clP cI cZ cS O k g a d w0 c f z V T n K G L v]) := hD
          refine lv_eqi (y := wt (V 0) j) (rfl) ?_
          refine lv_iload hx hb dL_holds_255 (lv_at hl 7 rfl) ?_
          have jn257 : W p l e RM_holds s m args below meth cd H locs 0 0 Q (F0 m 280 ls [.int (wt (V 0) j), .int (wt (V 0) j)]) := by
            refine lv_icmp_ne (tgt := 334) hx hb dL_holds_280 (by decide) (fun h => absurd rfl h) (fun _ => ?_)
            refine lv_aload_n hx hb dL_holds_283 rfl (lv_at hl 12 rfl) ?_
            refine lv_iload hx hb dL_holds_284 (lv_at hl 9 rfl) ?_
            refine lv_iconst (v := 3) hx hb dL_holds_286 (by decide) ?_
            refine kcallVJ (U := Unit) (As := [.int (nI j), .int 3]) (rest := []) (Wr := []) (Wc := [clP cI cZ cS O k g a d w0 c f z V T n K G L v]) (Wo := fun u => [clP cI cZ cS O k g a d w0 c f z V T n K G L v]) X (k_balloon l D cI cZ cS cJ O k g a d w0 c f z V T n K G L v j 3 (by omega) (by omega)) (cwV 2 hts gL_holds_X6_balloon rfl rfl rfl (by decide +kernel) ⟨Nat.le_of_ble_eq_true rfl, Nat.le_of_ble_eq_true rfl⟩) hK hP hD hS hA 0 6 rfl rfl rfl hl.1 rfl (Nat.le_of_ble_eq_true rfl) dL_holds_287 ⟨Nat.le_of_ble_eq_true rfl, Nat.le_of_ble_eq_true rfl⟩ (fun u H locs hu hP hD hS => ?_)
            have hP : va_P D vwCl (List.flatten [clP cI cZ cS O k g a d w0 c f z V T n K G L v]) _ := hP
            have hD : va_D A (List.flatten [clP cI cZ cS O k g a d w0 c f z V T n K G L v]) := hD
            refine lv_eqi (y := lift (V 0) j) (rfl) ?_
            refine lv_aload_n hx hb dL_holds_290 rfl (lv_at hl 12 rfl) ?_
            refine lv_iload hx hb dL_holds_291 (lv_at hl 9 rfl) ?_
            refine lv_iconst (v := 0) hx hb dL_holds_293 (by decide) ?_
            refine kcallVJ (U := Unit) (As := [.int (nI j), .int 0]) (rest := [.int (lift (V 0) j)]) (Wr := []) (Wc := [clP cI cZ cS O k g a d w0 c f z V T n K G L v]) (Wo := fun u => [clP cI cZ cS O k g a d w0 c f z V T n K G L v]) X (k_balloon l D cI cZ cS cJ O k g a d w0 c f z V T n K G L v j 0 (by omega) (by omega)) (cwV 2 hts gL_holds_X6_balloon rfl rfl rfl (by decide +kernel) ⟨Nat.le_of_ble_eq_true rfl, Nat.le_of_ble_eq_true rfl⟩) hK hP hD hS hA 0 6 rfl rfl rfl hl.1 rfl (Nat.le_of_ble_eq_true rfl) dL_holds_294 ⟨Nat.le_of_ble_eq_true rfl, Nat.le_of_ble_eq_true rfl⟩ (fun u H locs hu hP hD hS => ?_)
            have hP : va_P D vwCl (List.flatten [clP cI cZ cS O k g a d w0 c f z V T n K G L v]) _ := hP
            have hD : va_D A (List.flatten [clP cI cZ cS O k g a d w0 c f z V T n K G L v]) := hD
            refine lv_eqi (y := V 0 0 j) (rfl) ?_
            refine lv_bipush (v := 10) hx hb dL_holds_297 (by decide) ?_
            refine lv_isub hx hb dL_holds_299 ?_
            refine lv_iconst (v := 5) hx hb dL_holds_300 (by decide) ?_
            refine lv_aload_n hx hb dL_holds_301 rfl (lv_at hl 12 rfl) ?_
            refine lv_iload hx hb dL_holds_302 (lv_at hl 9 rfl) ?_
            refine lv_iconst (v := 1) hx hb dL_holds_304 (by decide) ?_
            refine kcallVJ (U := Unit) (As := [.int (nI j), .int 1]) (rest := [.int 5, .int ((V 0 0 j) - 10), .int (lift (V 0) j)]) (Wr := []) (Wc := [clP cI cZ cS O k g a d w0 c f z V T n K G L v]) (Wo := fun u => [clP cI cZ cS O k g a d w0 c f z V T n K G L v]) X (k_balloon l D cI cZ cS cJ O k g a d w0 c f z V T n K G L v j 1 (by omega) (by omega)) (cwV 2 hts gL_holds_X6_balloon rfl rfl rfl (by decide +kernel) ⟨Nat.le_of_ble_eq_true rfl, Nat.le_of_ble_eq_true rfl⟩) hK hP hD hS hA 0 6 rfl rfl rfl hl.1 rfl (Nat.le_of_ble_eq_true rfl) dL_holds_305 ⟨Nat.le_of_ble_eq_true rfl, Nat.le_of_ble_eq_true rfl⟩ (fun u H locs hu hP hD hS => ?_)
            have hP : va_P D vwCl (List.flatten [clP cI cZ cS O k g a d w0 c f z V T n K G L v]) _ := hP
            have hD : va_D A (List.flatten [clP cI cZ cS O k g a d w0 c f z V T n K G L v]) := hD
            refine lv_eqi (y := V 0 1 j) (rfl) ?_
            refine lv_imul hx hb dL_holds_308 ?_
            refine lv_isub hx hb dL_holds_309 ?_
            refine lv_icmp_ne (tgt := 334) hx hb dL_holds_310 (by decide) (fun h => absurd rfl h) (fun _ => ?_)
            refine lv_iload hx hb dL_holds_313 (lv_at hl 8 rfl) ?_
            refine lv_aload_n hx hb dL_holds_315 rfl (lv_at hl 12 rfl) ?_
            refine lv_aload_n hx hb dL_holds_316 rfl (lv_at hl 12 rfl) ?_
            refine lv_bipush (v := 10) hx hb dL_holds_317 (by decide) ?_
            refine kcallVJ (U := Unit) (As := [.int 10]) (rest := [.ref (O 0), .int (V 0 6 j)]) (Wr := []) (Wc := [clP cI cZ cS O k g a d w0 c f z V T n K G L v]) (Wo := fun u => [clP cI cZ cS O k g a d w0 c f z V T n K G L v]) X (k_count l D cI cZ cS cJ O k g a d w0 c f z V T n K G L v 10 (by omega)) (cwV 1 hts gL_holds_X6_count rfl rfl rfl (by decide +kernel) ⟨Nat.le_of_ble_eq_true rfl, Nat.le_of_ble_eq_true rfl⟩) hK hP hD hS hA 0 6 rfl rfl rfl hl.1 rfl (Nat.le_of_ble_eq_true rfl) dL_holds_319 ⟨Nat.le_of_ble_eq_true rfl, Nat.le_of_ble_eq_true rfl⟩ (fun u H locs hu hP hD hS => ?_)
            have hP : va_P D vwCl (List.flatten [clP cI cZ cS O k g a d w0 c f z V T n K G L v]) _ := hP
            have hD : va_D A (List.flatten [clP cI cZ cS O k g a d w0 c f z V T n K G L v]) := hD
            refine lv_eqi (y := nI (hiN (V 0 6) 7)) (rfl) ?_
            refine lv_bipush (v := 6) hx hb dL_holds_322 (by decide) ?_
            refine kcallVJ (U := Unit) (As := [.int (nI (hiN (V 0 6) 7)), .int 6]) (rest := [.int (V 0 6 j)]) (Wr := []) (Wc := [clP cI cZ cS O k g a d w0 c f z V T n K G L v]) (Wo := fun u => [clP cI cZ cS O k g a d w0 c f z V T n K G L v]) X (k_balloon l D cI cZ cS cJ O k g a d w0 c f z V T n K G L v (hiN (V 0 6) 7) 6 (by have := hiN_le (V 0 6) 7; omega) (by omega)) (cwV 2 hts gL_holds_X6_balloon rfl rfl rfl (by decide +kernel) ⟨Nat.le_of_ble_eq_true rfl, Nat.le_of_ble_eq_true rfl⟩) hK hP hD hS hA 0 6 rfl rfl rfl hl.1 rfl (Nat.le_of_ble_eq_true rfl) dL_holds_324 ⟨Nat.le_of_ble_eq_true rfl, Nat.le_of_ble_eq_true rfl⟩ (fun u H locs hu hP hD hS => ?_)
            have hP : va_P D vwCl (List.flatten [clP cI cZ cS O k g a d w0 c f z V T n K G L v]) _ := hP
            have hD : va_D A (List.flatten [clP cI cZ cS O k g a d w0 c f z V T n K G L v]) := hD
            refine lv_eqi (y := V 0 6 (hiN (V 0 6) 7)) (hb6 hO (by have := hiN_le (V 0 6) 7; omega)) ?_
            refine lv_icmp_gt (tgt := 334) hx hb dL_holds_327 (by decide) (fun h => absurd h (Int32.not_lt.mpr (h6_hi (by omega)))) (fun _ => ?_)
            refine lv_iconst (v := 1) hx hb dL_holds_330 (by decide) ?_
            refine lv_goto (tgt := 335) hx hb dL_holds_331 (by decide) ?_
            refine lv_istore (lv' := [(6, .int 1), (5, .int (sm (fun q => b1 (ss (V 0) q = q)) (j + 1))), (3, .int (sm (fun q => b1 (V 0 6 q = 0)) (j + 1))), (2, .int (sm (V 0 6) (j + 1))), (1, .int (sm (V 0 0) (j + 1))), (12, .int (nI 8)), (11, .int (nI (se (V 0) (7 - j) j - ss (V 0) j + 1))), (10, .int 1), (9, .int (10 * (lift (V 0) j))), (8, .int (V 0 6 j)), (7, .int (nI j)), (4, .int 0), (0, .ref (O 0))]) hx hb dL_holds_335 hl (by decide) rfl (fun ls hl => ?_)
            refine lv_iload hx hb dL_holds_337 (lv_at hl 0 rfl) ?_
            refine lv_if_eq (tgt := 444) hx hb dL_holds_339 (by decide) (fun h => absurd h (by decide)) (fun _ => ?_)
            refine lv_aload_n hx hb dL_holds_342 rfl (lv_at hl 12 rfl) ?_
            refine lv_iload hx hb dL_holds_343 (lv_at hl 10 rfl) ?_
            refine lv_bipush (v := 7) hx hb dL_holds_345 (by decide) ?_
            refine kcallVJ (U := Unit) (As := [.int (nI j), .int 7]) (rest := []) (Wr := []) (Wc := [clP cI cZ cS O k g a d w0 c f z V T n K G L v]) (Wo := fun u => [clP cI cZ cS O k g a d w0 c f z V T n K G L v]) X (k_balloon l D cI cZ cS cJ O k g a d w0 c f z V T n K G L v j 7 (by omega) (by omega)) (cwV 2 hts gL_holds_X6_balloon rfl rfl rfl (by decide +kernel) ⟨Nat.le_of_ble_eq_true rfl, Nat.le_of_ble_eq_true rfl⟩) hK hP hD hS hA 0 6 rfl rfl rfl hl.1 rfl (Nat.le_of_ble_eq_true rfl) dL_holds_347 ⟨Nat.le_of_ble_eq_true rfl, Nat.le_of_ble_eq_true rfl⟩ (fun u H locs hu hP hD hS => ?_)
            have hP : va_P D vwCl (List.flatten [clP cI cZ cS O k g a d w0 c f z V T n K G L v]) _ := hP
            have hD : va_D A (List.flatten [clP cI cZ cS O k g a d w0 c f z V T n K G L v]) := hD
            refine lv_eqi (y := V 0 10 j) (rfl) ?_
            have jn350 : ∀ (H : Heap) (locs : List Loc), va_P D vwCl (List.flatten [clP cI cZ cS O k g a d w0 c f z V T n K G L v]) H → va_D A (List.flatten [clP cI cZ cS O k g a d w0 c f z V T n K G L v]) → va_S A s.heap H locs → W p l e RM_holds s m args below meth cd H locs 0 0 Q (F0 m 377 ls []) := by
              intro H locs hP hD hS
              refine lv_aload_n hx hb dL_holds_377 rfl (lv_at hl 12 rfl) ?_
              refine lv_iload hx hb dL_holds_378 (lv_at hl 10 rfl) ?_
              refine kcallVJ (U := (Nat → Nat → Int32) × (Nat → Int32) × (Int32)) (As := [.int (nI j)]) (rest := []) (Wr := []) (Wc := [clP cI cZ cS O k g a d w0 c f z V T n K G L v]) (Wo := fun u => [clP cI cZ cS O k g a d w0 c f z V T n K u.1 u.2.1 u.2.2]) X (k_landsIn l D cI cZ cS cJ O k g a d w0 c f z V T n K G L v j L8 hO (by omega) hL8) (cwV 1 hts gL_holds_X6_landsIn rfl rfl rfl (by decide +kernel) ⟨Nat.le_of_ble_eq_true rfl, Nat.le_of_ble_eq_true rfl⟩) hK hP hD hS hA 0 6 rfl rfl rfl hl.1 rfl (Nat.le_of_ble_eq_true rfl) dL_holds_380 ⟨Nat.le_of_ble_eq_true rfl, Nat.le_of_ble_eq_true rfl⟩ (fun uu H locs hu hP hD hS => ?_)
              obtain ⟨G9, L9, v9⟩ := uu
              have hP : va_P D vwCl (List.flatten [clP cI cZ cS O k g a d w0 c f z V T n K G9 L9 v9]) _ := hP
              have hD : va_D A (List.flatten [clP cI cZ cS O k g a d w0 c f z V T n K G9 L9 v9]) := hD
              refine lv_eqi (y := L8 j) (rfl) ?_
              have jn383 : W p l e RM_holds s m args below meth cd H locs 0 0 Q (F0 m 391 ls [.int (b1 (L8 j = 0))]) := by
                refine lv_iload hx hb dL_holds_391 (lv_at hl 9 rfl) ?_
                have jn393 : W p l e RM_holds s m args below meth cd H locs 0 0 Q (F0 m 401 ls [.int (b1 (V 0 6 j = 0)), .int (b1 (L8 j = 0))]) := by
                  refine lv_icmp_ne (tgt := 444) hx hb dL_holds_401 (by decide) (fun h => absurd (b1_cg (by rw [← hL8]; exact lnd_0 (by decide))) h) (fun _ => ?_)
                  refine lv_aload_n hx hb dL_holds_404 rfl (lv_at hl 12 rfl) ?_
                  refine lv_iload hx hb dL_holds_405 (lv_at hl 10 rfl) ?_
                  refine lv_iconst (v := 1) hx hb dL_holds_407 (by decide) ?_
                  refine kcallVJ (U := Unit) (As := [.int (nI j), .int 1]) (rest := []) (Wr := []) (Wc := [clP cI cZ cS O k g a d w0 c f z V T n K G9 L9 v9]) (Wo := fun u => [clP cI cZ cS O k g a d w0 c f z V T n (drpK (V 0) K j) G9 L9 v9]) X (k_ifDropped l D cI cZ cS cJ O k g a d w0 c f z V T n K G9 L9 v9 j 1 hO (by omega) (by omega)) (cwV 2 hts gL_holds_X6_ifDropped rfl rfl rfl (by decide +kernel) ⟨Nat.le_of_ble_eq_true rfl, Nat.le_of_ble_eq_true rfl⟩) hK hP hD hS hA 0 6 rfl rfl rfl hl.1 rfl (Nat.le_of_ble_eq_true rfl) dL_holds_408 ⟨Nat.le_of_ble_eq_true rfl, Nat.le_of_ble_eq_true rfl⟩ (fun u H locs hu hP hD hS => ?_)
                  have hP : va_P D vwCl (List.flatten [clP cI cZ cS O k g a d w0 c f z V T n (drpK (V 0) K j) G9 L9 v9]) _ := hP
                  have hD : va_D A (List.flatten [clP cI cZ cS O k g a d w0 c f z V T n (drpK (V 0) K j) G9 L9 v9]) := hD
                  refine lv_eqi (y := drpS (V 0) j 1) (rfl) ?_
                  refine lv_sipush (v := (-1000)) hx hb dL_holds_411 (by decide) ?_
                  have jn414 : W p l e RM_holds s m args below meth cd H locs 0 0 Q (F0 m 422 ls [.int (b1 (drpS (V 0) j 1 = -1000))]) := by
                    refine lv_aload_n hx hb dL_holds_422 rfl (lv_at hl 12 rfl) ?_
                    refine lv_iload hx hb dL_holds_423 (lv_at hl 10 rfl) ?_
                    refine lv_iconst (v := 1) hx hb dL_holds_425 (by decide) ?_
                    refine kcallVJ (U := Unit) (As := [.int (nI j), .int 1]) (rest := [.int (b1 (drpS (V 0) j 1 = -1000))]) (Wr := []) (Wc := [clP cI cZ cS O k g a d w0 c f z V T n (drpK (V 0) K j) G9 L9 v9]) (Wo := fun u => [clP cI cZ cS O k g a d w0 c f z V T n (drpK (V 0) K j) G9 L9 v9]) X (k_balloon l D cI cZ cS cJ O k g a d w0 c f z V T n (drpK (V 0) K j) G9 L9 v9 j 1 (by omega) (by omega)) (cwV 2 hts gL_holds_X6_balloon rfl rfl rfl (by decide +kernel) ⟨Nat.le_of_ble_eq_true rfl, Nat.le_of_ble_eq_true rfl⟩) hK hP hD hS hA 0 6 rfl rfl rfl hl.1 rfl (Nat.le_of_ble_eq_true rfl) dL_holds_426 ⟨Nat.le_of_ble_eq_true rfl, Nat.le_of_ble_eq_true rfl⟩ (fun u H locs hu hP hD hS => ?_)
                    have hP : va_P D vwCl (List.flatten [clP cI cZ cS O k g a d w0 c f z V T n (drpK (V 0) K j) G9 L9 v9]) _ := hP
                    have hD : va_D A (List.flatten [clP cI cZ cS O k g a d w0 c f z V T n (drpK (V 0) K j) G9 L9 v9]) := hD
                    refine lv_eqi (y := V 0 1 j) (rfl) ?_
                    have jn429 : W p l e RM_holds s m args below meth cd H locs 0 0 Q (F0 m 437 ls [.int (b1 (V 0 1 j = 0)), .int (b1 (drpS (V 0) j 1 = -1000))]) := by
                      refine lv_icmp_ne (tgt := 444) hx hb dL_holds_437 (by decide) (fun h => absurd (b1_cg (drp_1 hO (by omega))) h) (fun _ => ?_)
                      refine lv_iconst (v := 1) hx hb dL_holds_440 (by decide) ?_
                      refine lv_goto (tgt := 445) hx hb dL_holds_441 (by decide) ?_
                      refine lv_istore (lv' := [(6, .int 1), (5, .int (sm (fun q => b1 (ss (V 0) q = q)) (j + 1))), (3, .int (sm (fun q => b1 (V 0 6 q = 0)) (j + 1))), (2, .int (sm (V 0 6) (j + 1))), (1, .int (sm (V 0 0) (j + 1))), (12, .int (nI 8)), (11, .int (nI (se (V 0) (7 - j) j - ss (V 0) j + 1))), (10, .int 1), (9, .int (10 * (lift (V 0) j))), (8, .int (V 0 6 j)), (7, .int (nI j)), (4, .int 0), (0, .ref (O 0))]) hx hb dL_holds_445 hl (by decide) rfl (fun ls hl => ?_)
                      refine lv_iinc (v := nI (j + 1)) (lv' := [(7, .int (nI (j + 1))), (6, .int 1), (5, .int (sm (fun q => b1 (ss (V 0) q = q)) (j + 1))), (3, .int (sm (fun q => b1 (V 0 6 q = 0)) (j + 1))), (2, .int (sm (V 0 6) (j + 1))), (1, .int (sm (V 0 0) (j + 1))), (12, .int (nI 8)), (11, .int (nI (se (V 0) (7 - j) j - ss (V 0) j + 1))), (10, .int 1), (9, .int (10 * (lift (V 0) j))), (8, .int (V 0 6 j)), (4, .int 0), (0, .ref (O 0))]) hx hb dL_holds_447 hl (k := 10) rfl (nI_add _ _) (by decide) rfl (fun ls hl => ?_)
                      refine lv_goto (tgt := 18) hx hb dL_holds_450 (by decide) ?_
                      exact ih (j + 1) (by omega) (by omega) (drpK (V 0) K j) G9 L9 v9 _ _ _ hP hD hS (lv_sub hl [0, 1, 2, 11, 3, 4, 5, 12] rfl)
                    refine lv_if_ne (tgt := 436) hx hb dL_holds_429 (by decide) (fun c429 => ?_) (fun c429 => ?_)
                    · skip
                      refine lv_iconst (v := 0) hx hb dL_holds_436 (by decide) ?_
                      refine lv_eqi (y := b1 (V 0 1 j = 0)) (b1_n c429) ?_
                      exact jn429
                    · skip
                      refine lv_iconst (v := 1) hx hb dL_holds_432 (by decide) ?_
                      refine lv_goto (tgt := 437) hx hb dL_holds_433 (by decide) ?_
                      refine lv_eqi (y := b1 (V 0 1 j = 0)) (b1_y c429) ?_
                      exact jn429
                  refine lv_icmp_ne (tgt := 421) hx hb dL_holds_414 (by decide) (fun c414 => ?_) (fun c414 => ?_)
                  · skip
                    refine lv_iconst (v := 0) hx hb dL_holds_421 (by decide) ?_
                    refine lv_eqi (y := b1 (drpS (V 0) j 1 = -1000)) (b1_n c414) ?_
                    exact jn414
                  · skip
                    refine lv_iconst (v := 1) hx hb dL_holds_417 (by decide) ?_
                    refine lv_goto (tgt := 422) hx hb dL_holds_418 (by decide) ?_
                    refine lv_eqi (y := b1 (drpS (V 0) j 1 = -1000)) (b1_y c414) ?_
                    exact jn414
                refine lv_if_ne (tgt := 400) hx hb dL_holds_393 (by decide) (fun c393 => ?_) (fun c393 => ?_)
                · skip
                  refine lv_iconst (v := 0) hx hb dL_holds_400 (by decide) ?_
                  refine lv_eqi (y := b1 (V 0 6 j = 0)) (b1_n c393) ?_
                  exact jn393
                · skip
                  refine lv_iconst (v := 1) hx hb dL_holds_396 (by decide) ?_
                  refine lv_goto (tgt := 401) hx hb dL_holds_397 (by decide) ?_
                  refine lv_eqi (y := b1 (V 0 6 j = 0)) (b1_y c393) ?_
                  exact jn393
              refine lv_if_ne (tgt := 390) hx hb dL_holds_383 (by decide) (fun c383 => ?_) (fun c383 => ?_)
              · skip
                refine lv_iconst (v := 0) hx hb dL_holds_390 (by decide) ?_
                refine lv_eqi (y := b1 (L8 j = 0)) (b1_n c383) ?_
                exact jn383
              · skip
                refine lv_iconst (v := 1) hx hb dL_holds_386 (by decide) ?_
                refine lv_goto (tgt := 391) hx hb dL_holds_387 (by decide) ?_
                refine lv_eqi (y := b1 (L8 j = 0)) (b1_y c383) ?_
                exact jn383
            refine lv_if_eq (tgt := 364) hx hb dL_holds_350 (by decide) (fun c350 => ?_) (fun c350 => ?_)
            · skip
              refine lv_aload_n hx hb dL_holds_364 rfl (lv_at hl 12 rfl) ?_
              refine lv_iload hx hb dL_holds_365 (lv_at hl 10 rfl) ?_
              refine lv_bipush (v := 9) hx hb dL_holds_367 (by decide) ?_
              refine kcallVJ (U := Unit) (As := [.int (nI j), .int 9]) (rest := []) (Wr := []) (Wc := [clP cI cZ cS O k g a d w0 c f z V T n K G L v]) (Wo := fun u => [clP cI cZ cS O k g a d w0 c f z V T n K G L v]) X (k_balloon l D cI cZ cS cJ O k g a d w0 c f z V T n K G L v j 9 (by omega) (by omega)) (cwV 2 hts gL_holds_X6_balloon rfl rfl rfl (by decide +kernel) ⟨Nat.le_of_ble_eq_true rfl, Nat.le_of_ble_eq_true rfl⟩) hK hP hD hS hA 0 6 rfl rfl rfl hl.1 rfl (Nat.le_of_ble_eq_true rfl) dL_holds_369 ⟨Nat.le_of_ble_eq_true rfl, Nat.le_of_ble_eq_true rfl⟩ (fun u H locs hu hP hD hS => ?_)
              have hP : va_P D vwCl (List.flatten [clP cI cZ cS O k g a d w0 c f z V T n K G L v]) _ := hP
              have hD : va_D A (List.flatten [clP cI cZ cS O k g a d w0 c f z V T n K G L v]) := hD
              refine lv_eqi (y := tel (V 0) j) (rfl) ?_
              refine lv_iload hx hb dL_holds_372 (lv_at hl 9 rfl) ?_
              refine lv_icmp_ne (tgt := 444) hx hb dL_holds_374 (by decide) (fun h => absurd (tel_d c350) h) (fun _ => ?_)
              exact jn350 _ _ hP hD hS
            · skip
              refine lv_aload_n hx hb dL_holds_353 rfl (lv_at hl 12 rfl) ?_
              refine lv_iload hx hb dL_holds_354 (lv_at hl 10 rfl) ?_
              refine lv_bipush (v := 8) hx hb dL_holds_356 (by decide) ?_
              refine kcallVJ (U := Unit) (As := [.int (nI j), .int 8]) (rest := []) (Wr := []) (Wc := [clP cI cZ cS O k g a d w0 c f z V T n K G L v]) (Wo := fun u => [clP cI cZ cS O k g a d w0 c f z V T n K G L v]) X (k_balloon l D cI cZ cS cJ O k g a d w0 c f z V T n K G L v j 8 (by omega) (by omega)) (cwV 2 hts gL_holds_X6_balloon rfl rfl rfl (by decide +kernel) ⟨Nat.le_of_ble_eq_true rfl, Nat.le_of_ble_eq_true rfl⟩) hK hP hD hS hA 0 6 rfl rfl rfl hl.1 rfl (Nat.le_of_ble_eq_true rfl) dL_holds_358 ⟨Nat.le_of_ble_eq_true rfl, Nat.le_of_ble_eq_true rfl⟩ (fun u H locs hu hP hD hS => ?_)
              have hP : va_P D vwCl (List.flatten [clP cI cZ cS O k g a d w0 c f z V T n K G L v]) _ := hP
              have hD : va_D A (List.flatten [clP cI cZ cS O k g a d w0 c f z V T n K G L v]) := hD
              refine lv_eqi (y := V 0 12 0 - V 0 11 j) (rfl) ?_
              refine lv_if_ne (tgt := 377) hx hb dL_holds_361 (by decide) (fun c361 => ?_) (fun c361 => ?_)
              · skip
                exact jn350 _ _ hP hD hS
              · skip
                refine lv_aload_n hx hb dL_holds_364 rfl (lv_at hl 12 rfl) ?_
                refine lv_iload hx hb dL_holds_365 (lv_at hl 10 rfl) ?_
                refine lv_bipush (v := 9) hx hb dL_holds_367 (by decide) ?_
                refine kcallVJ (U := Unit) (As := [.int (nI j), .int 9]) (rest := []) (Wr := []) (Wc := [clP cI cZ cS O k g a d w0 c f z V T n K G L v]) (Wo := fun u => [clP cI cZ cS O k g a d w0 c f z V T n K G L v]) X (k_balloon l D cI cZ cS cJ O k g a d w0 c f z V T n K G L v j 9 (by omega) (by omega)) (cwV 2 hts gL_holds_X6_balloon rfl rfl rfl (by decide +kernel) ⟨Nat.le_of_ble_eq_true rfl, Nat.le_of_ble_eq_true rfl⟩) hK hP hD hS hA 0 6 rfl rfl rfl hl.1 rfl (Nat.le_of_ble_eq_true rfl) dL_holds_369 ⟨Nat.le_of_ble_eq_true rfl, Nat.le_of_ble_eq_true rfl⟩ (fun u H locs hu hP hD hS => ?_)
                have hP : va_P D vwCl (List.flatten [clP cI cZ cS O k g a d w0 c f z V T n K G L v]) _ := hP
                have hD : va_D A (List.flatten [clP cI cZ cS O k g a d w0 c f z V T n K G L v]) := hD
                refine lv_eqi (y := tel (V 0) j) (rfl) ?_
                refine lv_iload hx hb dL_holds_372 (lv_at hl 9 rfl) ?_
                refine lv_icmp_ne (tgt := 444) hx hb dL_holds_374 (by decide) (fun h => absurd (tel_h c361) h) (fun _ => ?_)
                exact jn350 _ _ hP hD hS
          refine lv_if_ge (tgt := 264) hx hb dL_holds_257 (by decide) (fun c257 => ?_) (fun c257 => ?_)
          · skip
            refine lv_iload hx hb dL_holds_264 (lv_at hl 7 rfl) ?_
            refine lv_sipush (v := 999) hx hb dL_holds_266 (by decide) ?_
            refine lv_icmp_le (tgt := 278) hx hb dL_holds_269 (by decide) (fun c269 => ?_) (fun c269 => ?_)
            · skip
              refine lv_iload hx hb dL_holds_278 (lv_at hl 7 rfl) ?_
              refine lv_eqi (y := wt (V 0) j) (wt_le (Int32.not_lt.mpr c257) c269) ?_
              exact jn257
            · skip
              refine lv_sipush (v := 999) hx hb dL_holds_272 (by decide) ?_
              refine lv_goto (tgt := 280) hx hb dL_holds_275 (by decide) ?_
              refine lv_eqi (y := wt (V 0) j) (wt_gt c269) ?_
              exact jn257
          · skip
            refine lv_iconst (v := 0) hx hb dL_holds_260 (by decide) ?_
            refine lv_goto (tgt := 280) hx hb dL_holds_261 (by decide) ?_
            refine lv_eqi (y := wt (V 0) j) (wt_lt (Int32.not_le.mp c257)) ?_
            exact jn257
        refine n_ne (i := ss (V 0) j) (j := j) (tgt := 192) hx hb (by omega) (by omega) dL_holds_185 (by decide) (fun c185 => ?_) (fun c185 => ?_)
        · skip
          refine lv_iconst (v := 0) hx hb dL_holds_192 (by decide) ?_
          refine lv_eqi (y := b1 (ss (V 0) j = j)) (b1_n c185) ?_
          exact jn185
        · skip
          refine lv_iconst (v := 1) hx hb dL_holds_188 (by decide) ?_
          refine lv_goto (tgt := 193) hx hb dL_holds_189 (by decide) ?_
          refine lv_eqi (y := b1 (ss (V 0) j = j)) (b1_y c185) ?_
          exact jn185
      refine lv_if_ne (tgt := 170) hx hb dL_holds_163 (by decide) (fun c163 => ?_) (fun c163 => ?_)
      · skip
        refine lv_iconst (v := 0) hx hb dL_holds_170 (by decide) ?_
        refine lv_eqi (y := b1 (V 0 6 j = 0)) (b1_n c163) ?_
        exact jn163
      · skip
        refine lv_iconst (v := 1) hx hb dL_holds_166 (by decide) ?_
        refine lv_goto (tgt := 171) hx hb dL_holds_167 (by decide) ?_
        refine lv_eqi (y := b1 (V 0 6 j = 0)) (b1_y c163) ?_
        exact jn163

set_option maxHeartbeats 4000000 in
set_option maxRecDepth 100000 in
theorem hd_2 {p : Program} {e : Env} {s : State} {m : MethodId} {args : Array Value} {below : List Frame} {meth : Method} {cd : Code} {Q : State → Prop} {A : Nat → Prop} (l : Launch) (D : va_G) (cI cZ cS cJ : ClassId) (X : CallFix p m cd cL_holds 14 s args wsL_holds RL) (hK : va_K D vwCl (tyL cI cZ cS cJ) s) (hA : ∀ q, s.heap.size ≤ q → A q) (O k g a d : Nat → Nat) (w0 : Int32) (c : Nat → Nat → Nat) (f : Nat → Option Nat) (z : Nat) (V : Nat → Nat → Nat → Int32) (T : Nat → Int32) (n : Nat) (K G : Nat → Nat → Int32) (L : Nat → Int32) (v : Int32) (hO : OK (V 0)) (x5 x3 x2 x1 : Int32) (kk : ∀ (H : Heap) (locs : List Loc) (ls : Array Slot), va_P D vwCl (List.flatten [clP cI cZ cS O k g a d w0 c f z V T n K G L v]) H → va_D A (List.flatten [clP cI cZ cS O k g a d w0 c f z V T n K G L v]) → va_S A s.heap H locs → lv_has ls 14 [(7, .int (nI 7)), (6, .int 1), (4, .int (sm (fun q => b1 (¬ V 0 3 q = 0)) 7)), (5, .int x5), (3, .int x3), (2, .int x2), (1, .int x1), (0, .ref (O 0))] → W p l e RM_holds s m args below meth cd H locs 0 0 Q (F0 m 649 ls [])) : ∀ (nn r : Nat), r ≤ 7 → 7 - r < nn → ∀ (H : Heap) (locs : List Loc) (ls : Array Slot), va_P D vwCl (List.flatten [clP cI cZ cS O k g a d w0 c f z V T n K G L v]) H → va_D A (List.flatten [clP cI cZ cS O k g a d w0 c f z V T n K G L v]) → va_S A s.heap H locs → lv_has ls 14 [(7, .int (nI r)), (6, .int 1), (4, .int (sm (fun q => b1 (¬ V 0 3 q = 0)) r)), (5, .int x5), (3, .int x3), (2, .int x2), (1, .int x1), (0, .ref (O 0))] → W p l e RM_holds s m args below meth cd H locs 0 0 Q (F0 m 456 ls []) := by
  obtain ⟨hx, hb, hml, hown, hts⟩ := id X
  intro nn
  induction nn with
  | zero => intro r hr hms; exact absurd hms (Nat.not_lt_zero _)
  | succ nn ih =>
    intro r hr hms H locs ls hP hD hS hl
    refine lv_iload hx hb dL_holds_456 (lv_at hl 0 rfl) ?_
    refine lv_bipush (v := 7) hx hb dL_holds_458 (by decide) ?_
    refine n_ge (i := r) (j := 7) (tgt := 649) hx hb (by omega) (by omega) dL_holds_460 (by decide) (fun c460 => ?_) (fun c460 => ?_)
    · skip
      obtain rfl : r = 7 := by omega
      exact kk _ _ _ hP hD hS (lv_sub hl [0, 1, 2, 3, 4, 5, 6, 7] rfl)
    · skip
      refine lv_aload_n hx hb dL_holds_463 rfl (lv_at hl 7 rfl) ?_
      refine lv_iload hx hb dL_holds_464 (lv_at hl 0 rfl) ?_
      refine lv_bipush (v := 6) hx hb dL_holds_466 (by decide) ?_
      refine kcallVJ (U := Unit) (As := [.int (nI r), .int 6]) (rest := []) (Wr := []) (Wc := [clP cI cZ cS O k g a d w0 c f z V T n K G L v]) (Wo := fun u => [clP cI cZ cS O k g a d w0 c f z V T n K G L v]) X (k_balloon l D cI cZ cS cJ O k g a d w0 c f z V T n K G L v r 6 (by omega) (by omega)) (cwV 2 hts gL_holds_X6_balloon rfl rfl rfl (by decide +kernel) ⟨Nat.le_of_ble_eq_true rfl, Nat.le_of_ble_eq_true rfl⟩) hK hP hD hS hA 0 6 rfl rfl rfl hl.1 rfl (Nat.le_of_ble_eq_true rfl) dL_holds_468 ⟨Nat.le_of_ble_eq_true rfl, Nat.le_of_ble_eq_true rfl⟩ (fun u H locs hu hP hD hS => ?_)
      have hP : va_P D vwCl (List.flatten [clP cI cZ cS O k g a d w0 c f z V T n K G L v]) _ := hP
      have hD : va_D A (List.flatten [clP cI cZ cS O k g a d w0 c f z V T n K G L v]) := hD
      refine lv_eqi (y := V 0 6 r) (hb6 hO (by omega)) ?_
      refine lv_aload_n hx hb dL_holds_471 rfl (lv_at hl 7 rfl) ?_
      refine lv_iload hx hb dL_holds_472 (lv_at hl 0 rfl) ?_
      refine lv_iconst (v := 1) hx hb dL_holds_474 (by decide) ?_
      refine lv_iadd hx hb dL_holds_475 ?_
      refine lv_eqi (y := nI (r + 1)) (nI_add _ _) ?_
      refine lv_bipush (v := 6) hx hb dL_holds_476 (by decide) ?_
      refine kcallVJ (U := Unit) (As := [.int (nI (r + 1)), .int 6]) (rest := [.int (V 0 6 r)]) (Wr := []) (Wc := [clP cI cZ cS O k g a d w0 c f z V T n K G L v]) (Wo := fun u => [clP cI cZ cS O k g a d w0 c f z V T n K G L v]) X (k_balloon l D cI cZ cS cJ O k g a d w0 c f z V T n K G L v (r + 1) 6 (by omega) (by omega)) (cwV 2 hts gL_holds_X6_balloon rfl rfl rfl (by decide +kernel) ⟨Nat.le_of_ble_eq_true rfl, Nat.le_of_ble_eq_true rfl⟩) hK hP hD hS hA 0 6 rfl rfl rfl hl.1 rfl (Nat.le_of_ble_eq_true rfl) dL_holds_478 ⟨Nat.le_of_ble_eq_true rfl, Nat.le_of_ble_eq_true rfl⟩ (fun u H locs hu hP hD hS => ?_)
      have hP : va_P D vwCl (List.flatten [clP cI cZ cS O k g a d w0 c f z V T n K G L v]) _ := hP
      have hD : va_D A (List.flatten [clP cI cZ cS O k g a d w0 c f z V T n K G L v]) := hD
      refine lv_eqi (y := V 0 6 (r + 1)) (hb6 hO (by omega)) ?_
      refine lv_isub hx hb dL_holds_481 ?_
      refine lv_istore (lv' := [(8, .int ((V 0 6 r) - (V 0 6 (r + 1)))), (7, .int (nI r)), (6, .int 1), (4, .int (sm (fun q => b1 (¬ V 0 3 q = 0)) r)), (5, .int x5), (3, .int x3), (2, .int x2), (1, .int x1), (0, .ref (O 0))]) hx hb dL_holds_482 hl (by decide) rfl (fun ls hl => ?_)
      refine lv_aload_n hx hb dL_holds_484 rfl (lv_at hl 8 rfl) ?_
      refine lv_iload hx hb dL_holds_485 (lv_at hl 1 rfl) ?_
      refine lv_iconst (v := 0) hx hb dL_holds_487 (by decide) ?_
      refine kcallVJ (U := Unit) (As := [.int (nI r), .int 0]) (rest := []) (Wr := []) (Wc := [clP cI cZ cS O k g a d w0 c f z V T n K G L v]) (Wo := fun u => [clP cI cZ cS O k g a d w0 c f z V T n K G L v]) X (k_ribbon l D cI cZ cS cJ O k g a d w0 c f z V T n K G L v r 0 (by omega) (by omega)) (cwV 2 hts gL_holds_X6_ribbon rfl rfl rfl (by decide +kernel) ⟨Nat.le_of_ble_eq_true rfl, Nat.le_of_ble_eq_true rfl⟩) hK hP hD hS hA 0 6 rfl rfl rfl hl.1 rfl (Nat.le_of_ble_eq_true rfl) dL_holds_488 ⟨Nat.le_of_ble_eq_true rfl, Nat.le_of_ble_eq_true rfl⟩ (fun u H locs hu hP hD hS => ?_)
      have hP : va_P D vwCl (List.flatten [clP cI cZ cS O k g a d w0 c f z V T n K G L v]) _ := hP
      have hD : va_D A (List.flatten [clP cI cZ cS O k g a d w0 c f z V T n K G L v]) := hD
      refine lv_eqi (y := b1 (¬ V 0 3 r = 0)) (rfl) ?_
      refine lv_iconst (v := 1) hx hb dL_holds_491 (by decide) ?_
      have jn492 : W p l e RM_holds s m args below meth cd H locs 0 0 Q (F0 m 500 ls [.int (b1 (¬ V 0 3 r = 0))]) := by
        refine lv_istore (lv' := [(9, .int (b1 (¬ V 0 3 r = 0))), (8, .int ((V 0 6 r) - (V 0 6 (r + 1)))), (7, .int (nI r)), (6, .int 1), (4, .int (sm (fun q => b1 (¬ V 0 3 q = 0)) r)), (5, .int x5), (3, .int x3), (2, .int x2), (1, .int x1), (0, .ref (O 0))]) hx hb dL_holds_500 hl (by decide) rfl (fun ls hl => ?_)
        refine lv_iload hx hb dL_holds_502 (lv_at hl 4 rfl) ?_
        refine lv_iload hx hb dL_holds_504 (lv_at hl 0 rfl) ?_
        have jn506 : W p l e RM_holds s m args below meth cd H locs 0 0 Q (F0 m 514 ls [.int (b1 (¬ V 0 3 r = 0)), .int (sm (fun q => b1 (¬ V 0 3 q = 0)) r)]) := by
          refine lv_iadd hx hb dL_holds_514 ?_
          refine lv_eqi (y := sm (fun q => b1 (¬ V 0 3 q = 0)) (r + 1)) (rfl) ?_
          refine lv_istore (lv' := [(4, .int (sm (fun q => b1 (¬ V 0 3 q = 0)) (r + 1))), (9, .int (b1 (¬ V 0 3 r = 0))), (8, .int ((V 0 6 r) - (V 0 6 (r + 1)))), (7, .int (nI r)), (6, .int 1), (5, .int x5), (3, .int x3), (2, .int x2), (1, .int x1), (0, .ref (O 0))]) hx hb dL_holds_515 hl (by decide) rfl (fun ls hl => ?_)
          refine lv_iload hx hb dL_holds_517 (lv_at hl 4 rfl) ?_
          refine lv_if_eq (tgt := 640) hx hb dL_holds_519 (by decide) (fun h => absurd h (by decide)) (fun _ => ?_)
          refine lv_iload hx hb dL_holds_522 (lv_at hl 1 rfl) ?_
          have jn524 : ∀ (H : Heap) (locs : List Loc), va_P D vwCl (List.flatten [clP cI cZ cS O k g a d w0 c f z V T n K G L v]) H → va_D A (List.flatten [clP cI cZ cS O k g a d w0 c f z V T n K G L v]) → va_S A s.heap H locs → W p l e RM_holds s m args below meth cd H locs 0 0 Q (F0 m 565 ls []) := by
            intro H locs hP hD hS
            refine lv_aload_n hx hb dL_holds_565 rfl (lv_at hl 9 rfl) ?_
            refine lv_iload hx hb dL_holds_566 (lv_at hl 3 rfl) ?_
            refine lv_iconst (v := 3) hx hb dL_holds_568 (by decide) ?_
            refine kcallVJ (U := Unit) (As := [.int (nI r), .int 3]) (rest := []) (Wr := []) (Wc := [clP cI cZ cS O k g a d w0 c f z V T n K G L v]) (Wo := fun u => [clP cI cZ cS O k g a d w0 c f z V T n K G L v]) X (k_ribbon l D cI cZ cS cJ O k g a d w0 c f z V T n K G L v r 3 (by omega) (by omega)) (cwV 2 hts gL_holds_X6_ribbon rfl rfl rfl (by decide +kernel) ⟨Nat.le_of_ble_eq_true rfl, Nat.le_of_ble_eq_true rfl⟩) hK hP hD hS hA 0 6 rfl rfl rfl hl.1 rfl (Nat.le_of_ble_eq_true rfl) dL_holds_569 ⟨Nat.le_of_ble_eq_true rfl, Nat.le_of_ble_eq_true rfl⟩ (fun u H locs hu hP hD hS => ?_)
            have hP : va_P D vwCl (List.flatten [clP cI cZ cS O k g a d w0 c f z V T n K G L v]) _ := hP
            have hD : va_D A (List.flatten [clP cI cZ cS O k g a d w0 c f z V T n K G L v]) := hD
            refine lv_eqi (y := pulC (V 0) r) (rfl) ?_
            refine lv_if_lt (tgt := 640) hx hb dL_holds_572 (by decide) (fun h => absurd h (pul_nn hO (by omega))) (fun _ => ?_)
            refine lv_aload_n hx hb dL_holds_575 rfl (lv_at hl 9 rfl) ?_
            refine lv_iload hx hb dL_holds_576 (lv_at hl 3 rfl) ?_
            refine lv_iconst (v := 4) hx hb dL_holds_578 (by decide) ?_
            refine kcallVJ (U := Unit) (As := [.int (nI r), .int 4]) (rest := []) (Wr := []) (Wc := [clP cI cZ cS O k g a d w0 c f z V T n K G L v]) (Wo := fun u => [clP cI cZ cS O k g a d w0 c f z V T n K G L v]) X (k_ribbon l D cI cZ cS cJ O k g a d w0 c f z V T n K G L v r 4 (by omega) (by omega)) (cwV 2 hts gL_holds_X6_ribbon rfl rfl rfl (by decide +kernel) ⟨Nat.le_of_ble_eq_true rfl, Nat.le_of_ble_eq_true rfl⟩) hK hP hD hS hA 0 6 rfl rfl rfl hl.1 rfl (Nat.le_of_ble_eq_true rfl) dL_holds_579 ⟨Nat.le_of_ble_eq_true rfl, Nat.le_of_ble_eq_true rfl⟩ (fun u H locs hu hP hD hS => ?_)
            have hP : va_P D vwCl (List.flatten [clP cI cZ cS O k g a d w0 c f z V T n K G L v]) _ := hP
            have hD : va_D A (List.flatten [clP cI cZ cS O k g a d w0 c f z V T n K G L v]) := hD
            refine lv_eqi (y := b1 (V 0 5 r < pulC (V 0) r)) (rfl) ?_
            refine lv_iconst (v := 1) hx hb dL_holds_582 (by decide) ?_
            have jn583 : W p l e RM_holds s m args below meth cd H locs 0 0 Q (F0 m 591 ls [.int (b1 (V 0 5 r < pulC (V 0) r))]) := by
              refine lv_aload_n hx hb dL_holds_591 rfl (lv_at hl 9 rfl) ?_
              refine lv_iload hx hb dL_holds_592 (lv_at hl 3 rfl) ?_
              refine lv_iconst (v := 3) hx hb dL_holds_594 (by decide) ?_
              refine kcallVJ (U := Unit) (As := [.int (nI r), .int 3]) (rest := [.int (b1 (V 0 5 r < pulC (V 0) r))]) (Wr := []) (Wc := [clP cI cZ cS O k g a d w0 c f z V T n K G L v]) (Wo := fun u => [clP cI cZ cS O k g a d w0 c f z V T n K G L v]) X (k_ribbon l D cI cZ cS cJ O k g a d w0 c f z V T n K G L v r 3 (by omega) (by omega)) (cwV 2 hts gL_holds_X6_ribbon rfl rfl rfl (by decide +kernel) ⟨Nat.le_of_ble_eq_true rfl, Nat.le_of_ble_eq_true rfl⟩) hK hP hD hS hA 0 6 rfl rfl rfl hl.1 rfl (Nat.le_of_ble_eq_true rfl) dL_holds_595 ⟨Nat.le_of_ble_eq_true rfl, Nat.le_of_ble_eq_true rfl⟩ (fun u H locs hu hP hD hS => ?_)
              have hP : va_P D vwCl (List.flatten [clP cI cZ cS O k g a d w0 c f z V T n K G L v]) _ := hP
              have hD : va_D A (List.flatten [clP cI cZ cS O k g a d w0 c f z V T n K G L v]) := hD
              refine lv_eqi (y := pulC (V 0) r) (rfl) ?_
              refine lv_aload_n hx hb dL_holds_598 rfl (lv_at hl 9 rfl) ?_
              refine lv_iload hx hb dL_holds_599 (lv_at hl 3 rfl) ?_
              refine lv_iconst (v := 2) hx hb dL_holds_601 (by decide) ?_
              refine kcallVJ (U := Unit) (As := [.int (nI r), .int 2]) (rest := [.int (pulC (V 0) r), .int (b1 (V 0 5 r < pulC (V 0) r))]) (Wr := []) (Wc := [clP cI cZ cS O k g a d w0 c f z V T n K G L v]) (Wo := fun u => [clP cI cZ cS O k g a d w0 c f z V T n K G L v]) X (k_ribbon l D cI cZ cS cJ O k g a d w0 c f z V T n K G L v r 2 (by omega) (by omega)) (cwV 2 hts gL_holds_X6_ribbon rfl rfl rfl (by decide +kernel) ⟨Nat.le_of_ble_eq_true rfl, Nat.le_of_ble_eq_true rfl⟩) hK hP hD hS hA 0 6 rfl rfl rfl hl.1 rfl (Nat.le_of_ble_eq_true rfl) dL_holds_602 ⟨Nat.le_of_ble_eq_true rfl, Nat.le_of_ble_eq_true rfl⟩ (fun u H locs hu hP hD hS => ?_)
              have hP : va_P D vwCl (List.flatten [clP cI cZ cS O k g a d w0 c f z V T n K G L v]) _ := hP
              have hD : va_D A (List.flatten [clP cI cZ cS O k g a d w0 c f z V T n K G L v]) := hD
              refine lv_eqi (y := V 0 5 r) (rfl) ?_
              have jn605 : W p l e RM_holds s m args below meth cd H locs 0 0 Q (F0 m 613 ls [.int (b1 (V 0 5 r < pulC (V 0) r)), .int (b1 (V 0 5 r < pulC (V 0) r))]) := by
                refine lv_icmp_ne (tgt := 640) hx hb dL_holds_613 (by decide) (fun h => absurd rfl h) (fun _ => ?_)
                refine lv_aload_n hx hb dL_holds_616 rfl (lv_at hl 9 rfl) ?_
                refine lv_iload hx hb dL_holds_617 (lv_at hl 3 rfl) ?_
                refine lv_iconst (v := 5) hx hb dL_holds_619 (by decide) ?_
                refine kcallVJ (U := Unit) (As := [.int (nI r), .int 5]) (rest := []) (Wr := []) (Wc := [clP cI cZ cS O k g a d w0 c f z V T n K G L v]) (Wo := fun u => [clP cI cZ cS O k g a d w0 c f z V T n K G L v]) X (k_why l D cI cZ cS cJ O k g a d w0 c f z V T n K G L v r 5 (by omega) (fun _ => by omega) (by omega)) (cwV 2 hts gL_holds_X6_why rfl rfl rfl (by decide +kernel) ⟨Nat.le_of_ble_eq_true rfl, Nat.le_of_ble_eq_true rfl⟩) hK hP hD hS hA 0 6 rfl rfl rfl hl.1 rfl (Nat.le_of_ble_eq_true rfl) dL_holds_620 ⟨Nat.le_of_ble_eq_true rfl, Nat.le_of_ble_eq_true rfl⟩ (fun u H locs hu hP hD hS => ?_)
                have hP : va_P D vwCl (List.flatten [clP cI cZ cS O k g a d w0 c f z V T n K G L v]) _ := hP
                have hD : va_D A (List.flatten [clP cI cZ cS O k g a d w0 c f z V T n K G L v]) := hD
                refine lv_eqi (y := wn5 (V 0) r) (rfl) ?_
                have jn623 : W p l e RM_holds s m args below meth cd H locs 0 0 Q (F0 m 631 ls [.int (b1 (¬ V 0 3 r = 0))]) := by
                  refine lv_iload hx hb dL_holds_631 (lv_at hl 1 rfl) ?_
                  refine lv_icmp_ne (tgt := 640) hx hb dL_holds_633 (by decide) (fun h => absurd rfl h) (fun _ => ?_)
                  refine lv_iconst (v := 1) hx hb dL_holds_636 (by decide) ?_
                  refine lv_goto (tgt := 641) hx hb dL_holds_637 (by decide) ?_
                  refine lv_istore (lv' := [(6, .int 1), (4, .int (sm (fun q => b1 (¬ V 0 3 q = 0)) (r + 1))), (9, .int (b1 (¬ V 0 3 r = 0))), (8, .int ((V 0 6 r) - (V 0 6 (r + 1)))), (7, .int (nI r)), (5, .int x5), (3, .int x3), (2, .int x2), (1, .int x1), (0, .ref (O 0))]) hx hb dL_holds_641 hl (by decide) rfl (fun ls hl => ?_)
                  refine lv_iinc (v := nI (r + 1)) (lv' := [(7, .int (nI (r + 1))), (6, .int 1), (4, .int (sm (fun q => b1 (¬ V 0 3 q = 0)) (r + 1))), (9, .int (b1 (¬ V 0 3 r = 0))), (8, .int ((V 0 6 r) - (V 0 6 (r + 1)))), (5, .int x5), (3, .int x3), (2, .int x2), (1, .int x1), (0, .ref (O 0))]) hx hb dL_holds_643 hl (k := 4) rfl (nI_add _ _) (by decide) rfl (fun ls hl => ?_)
                  refine lv_goto (tgt := 456) hx hb dL_holds_646 (by decide) ?_
                  exact ih (r + 1) (by omega) (by omega) _ _ _ hP hD hS (lv_sub hl [0, 1, 2, 5, 6, 7, 8, 9] rfl)
                refine lv_if_ne (tgt := 630) hx hb dL_holds_623 (by decide) (fun c623 => ?_) (fun c623 => ?_)
                · skip
                  refine lv_iconst (v := 0) hx hb dL_holds_630 (by decide) ?_
                  refine lv_eqi (y := b1 (¬ V 0 3 r = 0)) (b1_n (fun q9 => c623 (wn5_0.mpr q9))) ?_
                  exact jn623
                · skip
                  refine lv_iconst (v := 1) hx hb dL_holds_626 (by decide) ?_
                  refine lv_goto (tgt := 631) hx hb dL_holds_627 (by decide) ?_
                  refine lv_eqi (y := b1 (¬ V 0 3 r = 0)) (b1_y (wn5_0.mp c623)) ?_
                  exact jn623
              refine lv_icmp_le (tgt := 612) hx hb dL_holds_605 (by decide) (fun c605 => ?_) (fun c605 => ?_)
              · skip
                refine lv_iconst (v := 0) hx hb dL_holds_612 (by decide) ?_
                refine lv_eqi (y := b1 (V 0 5 r < pulC (V 0) r)) (b1_n (Int32.not_lt.mpr c605)) ?_
                exact jn605
              · skip
                refine lv_iconst (v := 1) hx hb dL_holds_608 (by decide) ?_
                refine lv_goto (tgt := 613) hx hb dL_holds_609 (by decide) ?_
                refine lv_eqi (y := b1 (V 0 5 r < pulC (V 0) r)) (b1_y (Int32.not_le.mp c605)) ?_
                exact jn605
            refine lv_icmp_ne (tgt := 590) hx hb dL_holds_583 (by decide) (fun c583 => ?_) (fun c583 => ?_)
            · skip
              refine lv_iconst (v := 0) hx hb dL_holds_590 (by decide) ?_
              refine lv_eqi (y := b1 (V 0 5 r < pulC (V 0) r)) (((b1_01 _).resolve_right c583).symm) ?_
              exact jn583
            · skip
              refine lv_iconst (v := 1) hx hb dL_holds_586 (by decide) ?_
              refine lv_goto (tgt := 591) hx hb dL_holds_587 (by decide) ?_
              refine lv_eqi (y := b1 (V 0 5 r < pulC (V 0) r)) (c583.symm) ?_
              exact jn583
          refine lv_if_eq (tgt := 555) hx hb dL_holds_524 (by decide) (fun c524 => ?_) (fun c524 => ?_)
          · skip
            refine lv_aload_n hx hb dL_holds_555 rfl (lv_at hl 9 rfl) ?_
            refine lv_iload hx hb dL_holds_556 (lv_at hl 3 rfl) ?_
            refine lv_iconst (v := 3) hx hb dL_holds_558 (by decide) ?_
            refine kcallVJ (U := Unit) (As := [.int (nI r), .int 3]) (rest := []) (Wr := []) (Wc := [clP cI cZ cS O k g a d w0 c f z V T n K G L v]) (Wo := fun u => [clP cI cZ cS O k g a d w0 c f z V T n K G L v]) X (k_ribbon l D cI cZ cS cJ O k g a d w0 c f z V T n K G L v r 3 (by omega) (by omega)) (cwV 2 hts gL_holds_X6_ribbon rfl rfl rfl (by decide +kernel) ⟨Nat.le_of_ble_eq_true rfl, Nat.le_of_ble_eq_true rfl⟩) hK hP hD hS hA 0 6 rfl rfl rfl hl.1 rfl (Nat.le_of_ble_eq_true rfl) dL_holds_559 ⟨Nat.le_of_ble_eq_true rfl, Nat.le_of_ble_eq_true rfl⟩ (fun u H locs hu hP hD hS => ?_)
            have hP : va_P D vwCl (List.flatten [clP cI cZ cS O k g a d w0 c f z V T n K G L v]) _ := hP
            have hD : va_D A (List.flatten [clP cI cZ cS O k g a d w0 c f z V T n K G L v]) := hD
            refine lv_eqi (y := pulC (V 0) r) (rfl) ?_
            refine lv_if_ne (tgt := 640) hx hb dL_holds_562 (by decide) (fun h => absurd (pul_z (Decidable.not_not.mp (b1_ne (by rw [c524]; decide)))) h) (fun _ => ?_)
            exact jn524 _ _ hP hD hS
          · skip
            refine lv_iload hx hb dL_holds_527 (lv_at hl 2 rfl) ?_
            refine lv_aload_n hx hb dL_holds_529 rfl (lv_at hl 9 rfl) ?_
            refine lv_iload hx hb dL_holds_530 (lv_at hl 3 rfl) ?_
            refine lv_iconst (v := 1) hx hb dL_holds_532 (by decide) ?_
            refine kcallVJ (U := Unit) (As := [.int (nI r), .int 1]) (rest := [.int ((V 0 6 r) - (V 0 6 (r + 1)))]) (Wr := []) (Wc := [clP cI cZ cS O k g a d w0 c f z V T n K G L v]) (Wo := fun u => [clP cI cZ cS O k g a d w0 c f z V T n K G L v]) X (k_ribbon l D cI cZ cS cJ O k g a d w0 c f z V T n K G L v r 1 (by omega) (by omega)) (cwV 2 hts gL_holds_X6_ribbon rfl rfl rfl (by decide +kernel) ⟨Nat.le_of_ble_eq_true rfl, Nat.le_of_ble_eq_true rfl⟩) hK hP hD hS hA 0 6 rfl rfl rfl hl.1 rfl (Nat.le_of_ble_eq_true rfl) dL_holds_533 ⟨Nat.le_of_ble_eq_true rfl, Nat.le_of_ble_eq_true rfl⟩ (fun u H locs hu hP hD hS => ?_)
            have hP : va_P D vwCl (List.flatten [clP cI cZ cS O k g a d w0 c f z V T n K G L v]) _ := hP
            have hD : va_D A (List.flatten [clP cI cZ cS O k g a d w0 c f z V T n K G L v]) := hD
            refine lv_eqi (y := V 0 4 r) (rfl) ?_
            refine lv_icmp_gt (tgt := 640) hx hb dL_holds_536 (by decide) (fun h => absurd h (Int32.not_lt.mpr (ap_1 hO (by omega) (b1_e ((b1_01 _).resolve_left c524))).1)) (fun _ => ?_)
            refine lv_iload hx hb dL_holds_539 (lv_at hl 2 rfl) ?_
            refine lv_ineg hx hb dL_holds_541 ?_
            refine lv_aload_n hx hb dL_holds_542 rfl (lv_at hl 9 rfl) ?_
            refine lv_iload hx hb dL_holds_543 (lv_at hl 3 rfl) ?_
            refine lv_iconst (v := 1) hx hb dL_holds_545 (by decide) ?_
            refine kcallVJ (U := Unit) (As := [.int (nI r), .int 1]) (rest := [.int (-((V 0 6 r) - (V 0 6 (r + 1))))]) (Wr := []) (Wc := [clP cI cZ cS O k g a d w0 c f z V T n K G L v]) (Wo := fun u => [clP cI cZ cS O k g a d w0 c f z V T n K G L v]) X (k_ribbon l D cI cZ cS cJ O k g a d w0 c f z V T n K G L v r 1 (by omega) (by omega)) (cwV 2 hts gL_holds_X6_ribbon rfl rfl rfl (by decide +kernel) ⟨Nat.le_of_ble_eq_true rfl, Nat.le_of_ble_eq_true rfl⟩) hK hP hD hS hA 0 6 rfl rfl rfl hl.1 rfl (Nat.le_of_ble_eq_true rfl) dL_holds_546 ⟨Nat.le_of_ble_eq_true rfl, Nat.le_of_ble_eq_true rfl⟩ (fun u H locs hu hP hD hS => ?_)
            have hP : va_P D vwCl (List.flatten [clP cI cZ cS O k g a d w0 c f z V T n K G L v]) _ := hP
            have hD : va_D A (List.flatten [clP cI cZ cS O k g a d w0 c f z V T n K G L v]) := hD
            refine lv_eqi (y := V 0 4 r) (rfl) ?_
            refine lv_icmp_gt (tgt := 640) hx hb dL_holds_549 (by decide) (fun h => absurd h (Int32.not_lt.mpr (ap_1 hO (by omega) (b1_e ((b1_01 _).resolve_left c524))).2)) (fun _ => ?_)
            refine lv_goto (tgt := 565) hx hb dL_holds_552 (by decide) ?_
            exact jn524 _ _ hP hD hS
        refine lv_if_eq (tgt := 513) hx hb dL_holds_506 (by decide) (fun c506 => ?_) (fun c506 => ?_)
        · skip
          refine lv_iconst (v := 0) hx hb dL_holds_513 (by decide) ?_
          refine lv_eqi (y := b1 (¬ V 0 3 r = 0)) (c506.symm) ?_
          exact jn506
        · skip
          refine lv_iconst (v := 1) hx hb dL_holds_509 (by decide) ?_
          refine lv_goto (tgt := 514) hx hb dL_holds_510 (by decide) ?_
          refine lv_eqi (y := b1 (¬ V 0 3 r = 0)) (b1_1 c506) ?_
          exact jn506
      refine lv_icmp_ne (tgt := 499) hx hb dL_holds_492 (by decide) (fun c492 => ?_) (fun c492 => ?_)
      · skip
        refine lv_iconst (v := 0) hx hb dL_holds_499 (by decide) ?_
        refine lv_eqi (y := b1 (¬ V 0 3 r = 0)) (((b1_01 _).resolve_right c492).symm) ?_
        exact jn492
      · skip
        refine lv_iconst (v := 1) hx hb dL_holds_495 (by decide) ?_
        refine lv_goto (tgt := 500) hx hb dL_holds_496 (by decide) ?_
        refine lv_eqi (y := b1 (¬ V 0 3 r = 0)) (c492.symm) ?_
        exact jn492

theorem ns_1 {S : Nat → Nat → Int32} (h : NS S) {i : Nat} (h1 : 1 ≤ i) (h2 : i < cy S) : S 8 (i - 1) ≤ S 8 i := by
  have h3 := h.1 (i - 1) (by omega)
  rw [show i - 1 + 1 = i by omega] at h3
  exact Int32.le_iff_toInt_le.mpr h3.1
theorem ns_2 {S : Nat → Nat → Int32} (h : NS S) {i : Nat} (h1 : 1 ≤ i) (h2 : i < cy S) (c : ¬ S 8 (i - 1) < S 8 i) : ¬ S 7 (i - 1) = S 7 i := by
  have h3 := h.1 (i - 1) (by omega)
  rw [show i - 1 + 1 = i by omega] at h3
  exact h3.2.resolve_left (fun q => c (Int32.lt_iff_toInt_lt.mpr q))

set_option maxHeartbeats 4000000 in
set_option maxRecDepth 100000 in
theorem hd_3 {p : Program} {e : Env} {s : State} {m : MethodId} {args : Array Value} {below : List Frame} {meth : Method} {cd : Code} {Q : State → Prop} {A : Nat → Prop} (l : Launch) (D : va_G) (cI cZ cS cJ : ClassId) (X : CallFix p m cd cL_holds 14 s args wsL_holds RL) (hK : va_K D vwCl (tyL cI cZ cS cJ) s) (hA : ∀ q, s.heap.size ≤ q → A q) (O k g a d : Nat → Nat) (w0 : Int32) (c : Nat → Nat → Nat) (f : Nat → Option Nat) (z : Nat) (V : Nat → Nat → Nat → Int32) (T : Nat → Int32) (n : Nat) (K G : Nat → Nat → Int32) (L : Nat → Int32) (v : Int32) (hO : OK (V 0)) (hN : NS (V 0)) (x5 x4 x3 x2 x1 : Int32) (kk : ∀ (i : Nat) (H : Heap) (locs : List Loc) (ls : Array Slot), va_P D vwCl (List.flatten [clP cI cZ cS O k g a d w0 c f z V T n K G L v]) H → va_D A (List.flatten [clP cI cZ cS O k g a d w0 c f z V T n K G L v]) → va_S A s.heap H locs → lv_has ls 14 [(7, .int (nI i)), (6, .int 1), (5, .int x5), (4, .int x4), (3, .int x3), (2, .int x2), (1, .int x1), (0, .ref (O 0))] → W p l e RM_holds s m args below meth cd H locs 0 0 Q (F0 m 738 ls [])) : ∀ (nn i : Nat), 1 ≤ i → i ≤ 21 → 21 - i < nn → ∀ (H : Heap) (locs : List Loc) (ls : Array Slot), va_P D vwCl (List.flatten [clP cI cZ cS O k g a d w0 c f z V T n K G L v]) H → va_D A (List.flatten [clP cI cZ cS O k g a d w0 c f z V T n K G L v]) → va_S A s.heap H locs → lv_has ls 14 [(7, .int (nI i)), (6, .int 1), (5, .int x5), (4, .int x4), (3, .int x3), (2, .int x2), (1, .int x1), (0, .ref (O 0))] → W p l e RM_holds s m args below meth cd H locs 0 0 Q (F0 m 652 ls []) := by
  obtain ⟨hx, hb, hml, hown, hts⟩ := id X
  have hy20 := hO.2.2.2
  intro nn
  induction nn with
  | zero => intro i h1 hi hms; exact absurd hms (Nat.not_lt_zero _)
  | succ nn ih =>
    intro i h1 hi hms H locs ls hP hD hS hl
    refine lv_iload hx hb dL_holds_652 (lv_at hl 0 rfl) ?_
    refine lv_aload_n hx hb dL_holds_654 rfl (lv_at hl 7 rfl) ?_
    refine lv_bipush (v := 13) hx hb dL_holds_655 (by decide) ?_
    refine kcallVJ (U := Unit) (As := [.int 13]) (rest := [.int (nI i)]) (Wr := []) (Wc := [clP cI cZ cS O k g a d w0 c f z V T n K G L v]) (Wo := fun u => [clP cI cZ cS O k g a d w0 c f z V T n K G L v]) X (k_count l D cI cZ cS cJ O k g a d w0 c f z V T n K G L v 13 (by omega)) (cwV 1 hts gL_holds_X6_count rfl rfl rfl (by decide +kernel) ⟨Nat.le_of_ble_eq_true rfl, Nat.le_of_ble_eq_true rfl⟩) hK hP hD hS hA 0 6 rfl rfl rfl hl.1 rfl (Nat.le_of_ble_eq_true rfl) dL_holds_657 ⟨Nat.le_of_ble_eq_true rfl, Nat.le_of_ble_eq_true rfl⟩ (fun u H locs hu hP hD hS => ?_)
    have hP : va_P D vwCl (List.flatten [clP cI cZ cS O k g a d w0 c f z V T n K G L v]) _ := hP
    have hD : va_D A (List.flatten [clP cI cZ cS O k g a d w0 c f z V T n K G L v]) := hD
    refine lv_eqi (y := nI (cy (V 0))) (hO.2.2.1) ?_
    refine n_ge (i := i) (j := cy (V 0)) (tgt := 738) hx hb (by omega) (by omega) dL_holds_660 (by decide) (fun c660 => ?_) (fun c660 => ?_)
    · skip
      exact kk _ _ _ _ hP hD hS (lv_sub hl [0, 1, 2, 3, 4, 5, 6, 7] rfl)
    · skip
      refine lv_iload hx hb dL_holds_663 (lv_at hl 1 rfl) ?_
      refine lv_if_eq (tgt := 729) hx hb dL_holds_665 (by decide) (fun h => absurd h (by decide)) (fun _ => ?_)
      refine lv_aload_n hx hb dL_holds_668 rfl (lv_at hl 7 rfl) ?_
      refine lv_iload hx hb dL_holds_669 (lv_at hl 0 rfl) ?_
      refine lv_iconst (v := 1) hx hb dL_holds_671 (by decide) ?_
      refine lv_isub hx hb dL_holds_672 ?_
      refine lv_eqi (y := nI (i - 1)) (pk_sub (a := i) (b := 1) (by omega)) ?_
      refine lv_iconst (v := 1) hx hb dL_holds_673 (by decide) ?_
      refine kcallVJ (U := Unit) (As := [.int (nI (i - 1)), .int 1]) (rest := []) (Wr := []) (Wc := [clP cI cZ cS O k g a d w0 c f z V T n K G L v]) (Wo := fun u => [clP cI cZ cS O k g a d w0 c f z V T n K G L v]) X (k_noted l D cI cZ cS cJ O k g a d w0 c f z V T n K G L v (i - 1) 1 hO (by omega) (by omega)) (cwV 2 hts gL_holds_X6_noted rfl rfl rfl (by decide +kernel) ⟨Nat.le_of_ble_eq_true rfl, Nat.le_of_ble_eq_true rfl⟩) hK hP hD hS hA 0 6 rfl rfl rfl hl.1 rfl (Nat.le_of_ble_eq_true rfl) dL_holds_674 ⟨Nat.le_of_ble_eq_true rfl, Nat.le_of_ble_eq_true rfl⟩ (fun u H locs hu hP hD hS => ?_)
      have hP : va_P D vwCl (List.flatten [clP cI cZ cS O k g a d w0 c f z V T n K G L v]) _ := hP
      have hD : va_D A (List.flatten [clP cI cZ cS O k g a d w0 c f z V T n K G L v]) := hD
      refine lv_eqi (y := V 0 8 (i - 1)) (ntl_in (by omega)) ?_
      refine lv_aload_n hx hb dL_holds_677 rfl (lv_at hl 7 rfl) ?_
      refine lv_iload hx hb dL_holds_678 (lv_at hl 0 rfl) ?_
      refine lv_iconst (v := 1) hx hb dL_holds_680 (by decide) ?_
      refine kcallVJ (U := Unit) (As := [.int (nI i), .int 1]) (rest := [.int (V 0 8 (i - 1))]) (Wr := []) (Wc := [clP cI cZ cS O k g a d w0 c f z V T n K G L v]) (Wo := fun u => [clP cI cZ cS O k g a d w0 c f z V T n K G L v]) X (k_noted l D cI cZ cS cJ O k g a d w0 c f z V T n K G L v i 1 hO (by omega) (by omega)) (cwV 2 hts gL_holds_X6_noted rfl rfl rfl (by decide +kernel) ⟨Nat.le_of_ble_eq_true rfl, Nat.le_of_ble_eq_true rfl⟩) hK hP hD hS hA 0 6 rfl rfl rfl hl.1 rfl (Nat.le_of_ble_eq_true rfl) dL_holds_681 ⟨Nat.le_of_ble_eq_true rfl, Nat.le_of_ble_eq_true rfl⟩ (fun u H locs hu hP hD hS => ?_)
      have hP : va_P D vwCl (List.flatten [clP cI cZ cS O k g a d w0 c f z V T n K G L v]) _ := hP
      have hD : va_D A (List.flatten [clP cI cZ cS O k g a d w0 c f z V T n K G L v]) := hD
      refine lv_eqi (y := V 0 8 i) (ntl_in (by omega)) ?_
      refine lv_icmp_gt (tgt := 729) hx hb dL_holds_684 (by decide) (fun h => absurd h (Int32.not_lt.mpr (ns_1 hN (by omega) (by omega)))) (fun _ => ?_)
      refine lv_aload_n hx hb dL_holds_687 rfl (lv_at hl 7 rfl) ?_
      refine lv_iload hx hb dL_holds_688 (lv_at hl 0 rfl) ?_
      refine lv_iconst (v := 1) hx hb dL_holds_690 (by decide) ?_
      refine lv_isub hx hb dL_holds_691 ?_
      refine lv_eqi (y := nI (i - 1)) (pk_sub (a := i) (b := 1) (by omega)) ?_
      refine lv_iconst (v := 1) hx hb dL_holds_692 (by decide) ?_
      refine kcallVJ (U := Unit) (As := [.int (nI (i - 1)), .int 1]) (rest := []) (Wr := []) (Wc := [clP cI cZ cS O k g a d w0 c f z V T n K G L v]) (Wo := fun u => [clP cI cZ cS O k g a d w0 c f z V T n K G L v]) X (k_noted l D cI cZ cS cJ O k g a d w0 c f z V T n K G L v (i - 1) 1 hO (by omega) (by omega)) (cwV 2 hts gL_holds_X6_noted rfl rfl rfl (by decide +kernel) ⟨Nat.le_of_ble_eq_true rfl, Nat.le_of_ble_eq_true rfl⟩) hK hP hD hS hA 0 6 rfl rfl rfl hl.1 rfl (Nat.le_of_ble_eq_true rfl) dL_holds_693 ⟨Nat.le_of_ble_eq_true rfl, Nat.le_of_ble_eq_true rfl⟩ (fun u H locs hu hP hD hS => ?_)
      have hP : va_P D vwCl (List.flatten [clP cI cZ cS O k g a d w0 c f z V T n K G L v]) _ := hP
      have hD : va_D A (List.flatten [clP cI cZ cS O k g a d w0 c f z V T n K G L v]) := hD
      refine lv_eqi (y := V 0 8 (i - 1)) (ntl_in (by omega)) ?_
      refine lv_aload_n hx hb dL_holds_696 rfl (lv_at hl 7 rfl) ?_
      refine lv_iload hx hb dL_holds_697 (lv_at hl 0 rfl) ?_
      refine lv_iconst (v := 1) hx hb dL_holds_699 (by decide) ?_
      refine kcallVJ (U := Unit) (As := [.int (nI i), .int 1]) (rest := [.int (V 0 8 (i - 1))]) (Wr := []) (Wc := [clP cI cZ cS O k g a d w0 c f z V T n K G L v]) (Wo := fun u => [clP cI cZ cS O k g a d w0 c f z V T n K G L v]) X (k_noted l D cI cZ cS cJ O k g a d w0 c f z V T n K G L v i 1 hO (by omega) (by omega)) (cwV 2 hts gL_holds_X6_noted rfl rfl rfl (by decide +kernel) ⟨Nat.le_of_ble_eq_true rfl, Nat.le_of_ble_eq_true rfl⟩) hK hP hD hS hA 0 6 rfl rfl rfl hl.1 rfl (Nat.le_of_ble_eq_true rfl) dL_holds_700 ⟨Nat.le_of_ble_eq_true rfl, Nat.le_of_ble_eq_true rfl⟩ (fun u H locs hu hP hD hS => ?_)
      have hP : va_P D vwCl (List.flatten [clP cI cZ cS O k g a d w0 c f z V T n K G L v]) _ := hP
      have hD : va_D A (List.flatten [clP cI cZ cS O k g a d w0 c f z V T n K G L v]) := hD
      refine lv_eqi (y := V 0 8 i) (ntl_in (by omega)) ?_
      refine lv_icmp_lt (tgt := 725) hx hb dL_holds_703 (by decide) (fun c703 => ?_) (fun c703 => ?_)
      · skip
        refine lv_iconst (v := 1) hx hb dL_holds_725 (by decide) ?_
        refine lv_goto (tgt := 730) hx hb dL_holds_726 (by decide) ?_
        refine lv_istore (lv' := [(6, .int 1), (7, .int (nI i)), (5, .int x5), (4, .int x4), (3, .int x3), (2, .int x2), (1, .int x1), (0, .ref (O 0))]) hx hb dL_holds_730 hl (by decide) rfl (fun ls hl => ?_)
        refine lv_iinc (v := nI (i + 1)) (lv' := [(7, .int (nI (i + 1))), (6, .int 1), (5, .int x5), (4, .int x4), (3, .int x3), (2, .int x2), (1, .int x1), (0, .ref (O 0))]) hx hb dL_holds_732 hl (k := 1) rfl (nI_add _ _) (by decide) rfl (fun ls hl => ?_)
        refine lv_goto (tgt := 652) hx hb dL_holds_735 (by decide) ?_
        exact ih (i + 1) (by omega) (by omega) (by omega) _ _ _ hP hD hS (lv_sub hl [0, 1, 2, 3, 4, 5, 6, 7] rfl)
      · skip
        refine lv_aload_n hx hb dL_holds_706 rfl (lv_at hl 7 rfl) ?_
        refine lv_iload hx hb dL_holds_707 (lv_at hl 0 rfl) ?_
        refine lv_iconst (v := 1) hx hb dL_holds_709 (by decide) ?_
        refine lv_isub hx hb dL_holds_710 ?_
        refine lv_eqi (y := nI (i - 1)) (pk_sub (a := i) (b := 1) (by omega)) ?_
        refine lv_iconst (v := 0) hx hb dL_holds_711 (by decide) ?_
        refine kcallVJ (U := Unit) (As := [.int (nI (i - 1)), .int 0]) (rest := []) (Wr := []) (Wc := [clP cI cZ cS O k g a d w0 c f z V T n K G L v]) (Wo := fun u => [clP cI cZ cS O k g a d w0 c f z V T n K G L v]) X (k_noted l D cI cZ cS cJ O k g a d w0 c f z V T n K G L v (i - 1) 0 hO (by omega) (by omega)) (cwV 2 hts gL_holds_X6_noted rfl rfl rfl (by decide +kernel) ⟨Nat.le_of_ble_eq_true rfl, Nat.le_of_ble_eq_true rfl⟩) hK hP hD hS hA 0 6 rfl rfl rfl hl.1 rfl (Nat.le_of_ble_eq_true rfl) dL_holds_712 ⟨Nat.le_of_ble_eq_true rfl, Nat.le_of_ble_eq_true rfl⟩ (fun u H locs hu hP hD hS => ?_)
        have hP : va_P D vwCl (List.flatten [clP cI cZ cS O k g a d w0 c f z V T n K G L v]) _ := hP
        have hD : va_D A (List.flatten [clP cI cZ cS O k g a d w0 c f z V T n K G L v]) := hD
        refine lv_eqi (y := V 0 7 (i - 1)) (ntl_in (by omega)) ?_
        refine lv_aload_n hx hb dL_holds_715 rfl (lv_at hl 7 rfl) ?_
        refine lv_iload hx hb dL_holds_716 (lv_at hl 0 rfl) ?_
        refine lv_iconst (v := 0) hx hb dL_holds_718 (by decide) ?_
        refine kcallVJ (U := Unit) (As := [.int (nI i), .int 0]) (rest := [.int (V 0 7 (i - 1))]) (Wr := []) (Wc := [clP cI cZ cS O k g a d w0 c f z V T n K G L v]) (Wo := fun u => [clP cI cZ cS O k g a d w0 c f z V T n K G L v]) X (k_noted l D cI cZ cS cJ O k g a d w0 c f z V T n K G L v i 0 hO (by omega) (by omega)) (cwV 2 hts gL_holds_X6_noted rfl rfl rfl (by decide +kernel) ⟨Nat.le_of_ble_eq_true rfl, Nat.le_of_ble_eq_true rfl⟩) hK hP hD hS hA 0 6 rfl rfl rfl hl.1 rfl (Nat.le_of_ble_eq_true rfl) dL_holds_719 ⟨Nat.le_of_ble_eq_true rfl, Nat.le_of_ble_eq_true rfl⟩ (fun u H locs hu hP hD hS => ?_)
        have hP : va_P D vwCl (List.flatten [clP cI cZ cS O k g a d w0 c f z V T n K G L v]) _ := hP
        have hD : va_D A (List.flatten [clP cI cZ cS O k g a d w0 c f z V T n K G L v]) := hD
        refine lv_eqi (y := V 0 7 i) (ntl_in (by omega)) ?_
        refine lv_icmp_eq (tgt := 729) hx hb dL_holds_722 (by decide) (fun h => absurd h (ns_2 hN (by omega) (by omega) c703)) (fun _ => ?_)
        refine lv_iconst (v := 1) hx hb dL_holds_725 (by decide) ?_
        refine lv_goto (tgt := 730) hx hb dL_holds_726 (by decide) ?_
        refine lv_istore (lv' := [(6, .int 1), (7, .int (nI i)), (5, .int x5), (4, .int x4), (3, .int x3), (2, .int x2), (1, .int x1), (0, .ref (O 0))]) hx hb dL_holds_730 hl (by decide) rfl (fun ls hl => ?_)
        refine lv_iinc (v := nI (i + 1)) (lv' := [(7, .int (nI (i + 1))), (6, .int 1), (5, .int x5), (4, .int x4), (3, .int x3), (2, .int x2), (1, .int x1), (0, .ref (O 0))]) hx hb dL_holds_732 hl (k := 1) rfl (nI_add _ _) (by decide) rfl (fun ls hl => ?_)
        refine lv_goto (tgt := 652) hx hb dL_holds_735 (by decide) ?_
        exact ih (i + 1) (by omega) (by omega) (by omega) _ _ _ hP hD hS (lv_sub hl [0, 1, 2, 3, 4, 5, 6, 7] rfl)

/-- the share lost is a number from 0 to 1 -/
def LSF (S : Nat → Nat → Int32) : Prop := vf_n32 (lsF S) ∧ ¬ Op.cmpValue (FP.fcmp (lsF S) FP.fconst0) CmpOp.l < 0 ∧ ¬ 0 < Op.cmpValue (FP.fcmp (lsF S) FP.fconst1) CmpOp.g

set_option maxHeartbeats 4000000 in
set_option maxRecDepth 100000 in
theorem c_L_holds (l : Launch) (D : va_G) (cI cZ cS cJ : ClassId) (O k g a d : Nat → Nat) (w0 : Int32) (c : Nat → Nat → Nat) (f : Nat → Option Nat) (z : Nat) (V : Nat → Nat → Nat → Int32) (T : Nat → Int32) (n : Nat) (K G : Nat → Nat → Int32) (L : Nat → Int32) (v : Int32) (hO : OK (V 0)) (M : Int) (hA9 : AC M (V 0)) (hM : M ≤ 900000000) (hN : NS (V 0)) (hL : LSF (V 0)) : CE (U := (Nat → Nat → Int32) × (Nat → Nat → Int32) × (Nat → Int32) × Int32) l yL_holds wsL_holds RM_holds D (tyL cI cZ cS cJ) [.ref (O 0)] (List.flatten [clP cI cZ cS O k g a d w0 c f z V T n K G L v]) (fun _ => True) (fun _ => some (.int 1)) (fun u => List.flatten [clP cI cZ cS O k g a d w0 c f z V T n u.1 u.2.1 u.2.2.1 u.2.2.2]) 0 0 := by
  refine CE_int (cc := cL_holds) (maxL := 14) (rt := .boolean) (by decide) rfl (Nat.le_of_ble_eq_true rfl) (fun _ _ => rfl) ?_
  intro p e s m below meth cd A ls Q X hK hP hD hS hA hl hend
  have X : CallFix p m cd cL_holds 14 s (([.ref (O 0)] : List Value).toArray) wsL_holds RL := X
  obtain ⟨hx, hb, hml, hown, hts⟩ := id X
  have hy20 := hO.2.2.2
  have hl : lv_has ls 14 [(0, .ref (O 0))] := hl
  refine lv_iconst (v := 0) hx hb dL_holds_0 (by decide) ?_
  refine lv_istore_n (lv' := [(1, .int 0), (0, .ref (O 0))]) hx hb dL_holds_1 rfl hl (by decide) rfl (fun ls hl => ?_)
  refine lv_iconst (v := 0) hx hb dL_holds_2 (by decide) ?_
  refine lv_istore_n (lv' := [(2, .int 0), (1, .int 0), (0, .ref (O 0))]) hx hb dL_holds_3 rfl hl (by decide) rfl (fun ls hl => ?_)
  refine lv_iconst (v := 0) hx hb dL_holds_4 (by decide) ?_
  refine lv_istore_n (lv' := [(3, .int 0), (2, .int 0), (1, .int 0), (0, .ref (O 0))]) hx hb dL_holds_5 rfl hl (by decide) rfl (fun ls hl => ?_)
  refine lv_iconst (v := 0) hx hb dL_holds_6 (by decide) ?_
  refine lv_istore (lv' := [(4, .int 0), (3, .int 0), (2, .int 0), (1, .int 0), (0, .ref (O 0))]) hx hb dL_holds_7 hl (by decide) rfl (fun ls hl => ?_)
  refine lv_iconst (v := 0) hx hb dL_holds_9 (by decide) ?_
  refine lv_istore (lv' := [(5, .int 0), (4, .int 0), (3, .int 0), (2, .int 0), (1, .int 0), (0, .ref (O 0))]) hx hb dL_holds_10 hl (by decide) rfl (fun ls hl => ?_)
  refine lv_iconst (v := 1) hx hb dL_holds_12 (by decide) ?_
  refine lv_istore (lv' := [(6, .int 1), (5, .int 0), (4, .int 0), (3, .int 0), (2, .int 0), (1, .int 0), (0, .ref (O 0))]) hx hb dL_holds_13 hl (by decide) rfl (fun ls hl => ?_)
  refine lv_iconst (v := 0) hx hb dL_holds_15 (by decide) ?_
  refine lv_istore (lv' := [(7, .int 0), (6, .int 1), (5, .int 0), (4, .int 0), (3, .int 0), (2, .int 0), (1, .int 0), (0, .ref (O 0))]) hx hb dL_holds_16 hl (by decide) rfl (fun ls hl => ?_)
  have hl : lv_has ls 14 [(7, .int 0), (6, .int 1), (5, .int 0), (4, .int 0), (3, .int 0), (2, .int 0), (1, .int (sm (V 0 0) 0)), (0, .ref (O 0))] := lv_re hl 6 (x := 0) (y := sm (V 0 0) 0) rfl (rfl) rfl
  have hl : lv_has ls 14 [(7, .int 0), (6, .int 1), (5, .int 0), (4, .int 0), (3, .int 0), (2, .int (sm (V 0 6) 0)), (1, .int (sm (V 0 0) 0)), (0, .ref (O 0))] := lv_re hl 5 (x := 0) (y := sm (V 0 6) 0) rfl (rfl) rfl
  have hl : lv_has ls 14 [(7, .int 0), (6, .int 1), (5, .int 0), (4, .int 0), (3, .int (sm (fun q => b1 (V 0 6 q = 0)) 0)), (2, .int (sm (V 0 6) 0)), (1, .int (sm (V 0 0) 0)), (0, .ref (O 0))] := lv_re hl 4 (x := 0) (y := sm (fun q => b1 (V 0 6 q = 0)) 0) rfl (rfl) rfl
  have hl : lv_has ls 14 [(7, .int 0), (6, .int 1), (5, .int (sm (fun q => b1 (ss (V 0) q = q)) 0)), (4, .int 0), (3, .int (sm (fun q => b1 (V 0 6 q = 0)) 0)), (2, .int (sm (V 0 6) 0)), (1, .int (sm (V 0 0) 0)), (0, .ref (O 0))] := lv_re hl 2 (x := 0) (y := sm (fun q => b1 (ss (V 0) q = q)) 0) rfl (rfl) rfl
  have hl : lv_has ls 14 [(7, .int (nI 0)), (6, .int 1), (5, .int (sm (fun q => b1 (ss (V 0) q = q)) 0)), (4, .int 0), (3, .int (sm (fun q => b1 (V 0 6 q = 0)) 0)), (2, .int (sm (V 0 6) 0)), (1, .int (sm (V 0 0) 0)), (0, .ref (O 0))] := lv_re hl 0 (x := 0) (y := nI 0) rfl (rfl) rfl
  refine hd_1 l D cI cZ cS cJ X hK hA O k g a d w0 c f z V T n K G L v hO _ rfl (fun K9 G9 L9 v9 H locs ls hP hD hS hl => ?_) 9 0 (by omega) (by omega) K G L v _ _ _ hP hD hS (lv_sub hl [0, 1, 2, 3, 4, 5, 6, 7] rfl)
  have hP : va_P D vwCl (List.flatten [clP cI cZ cS O k g a d w0 c f z V T n K9 G9 L9 v9]) _ := hP
  have hD : va_D A (List.flatten [clP cI cZ cS O k g a d w0 c f z V T n K9 G9 L9 v9]) := hD
  have hl : lv_has ls 14 [(7, .int (nI 8)), (6, .int 1), (5, .int (sm (fun q => b1 (ss (V 0) q = q)) 8)), (4, .int 0), (3, .int (sm (fun q => b1 (V 0 6 q = 0)) 8)), (2, .int (sm (V 0 6) 8)), (1, .int (sm (V 0 0) 8)), (0, .ref (O 0))] := hl
  refine lv_iconst (v := 0) hx hb dL_holds_453 (by decide) ?_
  refine lv_istore (lv' := [(7, .int 0), (6, .int 1), (5, .int (sm (fun q => b1 (ss (V 0) q = q)) 8)), (4, .int 0), (3, .int (sm (fun q => b1 (V 0 6 q = 0)) 8)), (2, .int (sm (V 0 6) 8)), (1, .int (sm (V 0 0) 8)), (0, .ref (O 0))]) hx hb dL_holds_454 hl (by decide) rfl (fun ls hl => ?_)
  have hl : lv_has ls 14 [(7, .int 0), (6, .int 1), (5, .int (sm (fun q => b1 (ss (V 0) q = q)) 8)), (4, .int (sm (fun q => b1 (¬ V 0 3 q = 0)) 0)), (3, .int (sm (fun q => b1 (V 0 6 q = 0)) 8)), (2, .int (sm (V 0 6) 8)), (1, .int (sm (V 0 0) 8)), (0, .ref (O 0))] := lv_re hl 3 (x := 0) (y := sm (fun q => b1 (¬ V 0 3 q = 0)) 0) rfl (rfl) rfl
  have hl : lv_has ls 14 [(7, .int (nI 0)), (6, .int 1), (5, .int (sm (fun q => b1 (ss (V 0) q = q)) 8)), (4, .int (sm (fun q => b1 (¬ V 0 3 q = 0)) 0)), (3, .int (sm (fun q => b1 (V 0 6 q = 0)) 8)), (2, .int (sm (V 0 6) 8)), (1, .int (sm (V 0 0) 8)), (0, .ref (O 0))] := lv_re hl 0 (x := 0) (y := nI 0) rfl (rfl) rfl
  refine hd_2 l D cI cZ cS cJ X hK hA O k g a d w0 c f z V T n K9 G9 L9 v9 hO _ _ _ _ (fun H locs ls hP hD hS hl => ?_) 8 0 (by omega) (by omega) _ _ _ hP hD hS (lv_sub hl [0, 1, 3, 2, 4, 5, 6, 7] rfl)
  have hP : va_P D vwCl (List.flatten [clP cI cZ cS O k g a d w0 c f z V T n K9 G9 L9 v9]) _ := hP
  have hD : va_D A (List.flatten [clP cI cZ cS O k g a d w0 c f z V T n K9 G9 L9 v9]) := hD
  have hl : lv_has ls 14 [(7, .int (nI 7)), (6, .int 1), (4, .int (sm (fun q => b1 (¬ V 0 3 q = 0)) 7)), (5, .int (sm (fun q => b1 (ss (V 0) q = q)) 8)), (3, .int (sm (fun q => b1 (V 0 6 q = 0)) 8)), (2, .int (sm (V 0 6) 8)), (1, .int (sm (V 0 0) 8)), (0, .ref (O 0))] := hl
  refine lv_iconst (v := 1) hx hb dL_holds_649 (by decide) ?_
  refine lv_istore (lv' := [(7, .int 1), (6, .int 1), (4, .int (sm (fun q => b1 (¬ V 0 3 q = 0)) 7)), (5, .int (sm (fun q => b1 (ss (V 0) q = q)) 8)), (3, .int (sm (fun q => b1 (V 0 6 q = 0)) 8)), (2, .int (sm (V 0 6) 8)), (1, .int (sm (V 0 0) 8)), (0, .ref (O 0))]) hx hb dL_holds_650 hl (by decide) rfl (fun ls hl => ?_)
  have hl : lv_has ls 14 [(7, .int (nI 1)), (6, .int 1), (4, .int (sm (fun q => b1 (¬ V 0 3 q = 0)) 7)), (5, .int (sm (fun q => b1 (ss (V 0) q = q)) 8)), (3, .int (sm (fun q => b1 (V 0 6 q = 0)) 8)), (2, .int (sm (V 0 6) 8)), (1, .int (sm (V 0 0) 8)), (0, .ref (O 0))] := lv_re hl 0 (x := 1) (y := nI 1) rfl (rfl) rfl
  refine hd_3 l D cI cZ cS cJ X hK hA O k g a d w0 c f z V T n K9 G9 L9 v9 hO hN _ _ _ _ _ (fun i9 H locs ls hP hD hS hl => ?_) 21 1 (by omega) (by omega) (by omega) _ _ _ hP hD hS (lv_sub hl [0, 1, 3, 2, 4, 5, 6, 7] rfl)
  have hP : va_P D vwCl (List.flatten [clP cI cZ cS O k g a d w0 c f z V T n K9 G9 L9 v9]) _ := hP
  have hD : va_D A (List.flatten [clP cI cZ cS O k g a d w0 c f z V T n K9 G9 L9 v9]) := hD
  have hl : lv_has ls 14 [(7, .int (nI i9)), (6, .int 1), (5, .int (sm (fun q => b1 (ss (V 0) q = q)) 8)), (4, .int (sm (fun q => b1 (¬ V 0 3 q = 0)) 7)), (3, .int (sm (fun q => b1 (V 0 6 q = 0)) 8)), (2, .int (sm (V 0 6) 8)), (1, .int (sm (V 0 0) 8)), (0, .ref (O 0))] := hl
  refine lv_iload hx hb dL_holds_738 (lv_at hl 1 rfl) ?_
  refine lv_if_eq (tgt := 874) hx hb dL_holds_740 (by decide) (fun h => absurd h (by decide)) (fun _ => ?_)
  refine lv_iload_n hx hb dL_holds_743 rfl (lv_at hl 6 rfl) ?_
  refine lv_aload_n hx hb dL_holds_744 rfl (lv_at hl 7 rfl) ?_
  refine lv_iconst (v := 1) hx hb dL_holds_745 (by decide) ?_
  refine kcallVJ (U := Unit) (As := [.int 1]) (rest := [.int (sm (V 0 0) 8)]) (Wr := []) (Wc := [clP cI cZ cS O k g a d w0 c f z V T n K9 G9 L9 v9]) (Wo := fun u => [clP cI cZ cS O k g a d w0 c f z V T n K9 G9 L9 v9]) X (k_count l D cI cZ cS cJ O k g a d w0 c f z V T n K9 G9 L9 v9 1 (by omega)) (cwV 1 hts gL_holds_X6_count rfl rfl rfl (by decide +kernel) ⟨Nat.le_of_ble_eq_true rfl, Nat.le_of_ble_eq_true rfl⟩) hK hP hD hS hA 0 6 rfl rfl rfl hl.1 rfl (Nat.le_of_ble_eq_true rfl) dL_holds_746 ⟨Nat.le_of_ble_eq_true rfl, Nat.le_of_ble_eq_true rfl⟩ (fun u H locs hu hP hD hS => ?_)
  have hP : va_P D vwCl (List.flatten [clP cI cZ cS O k g a d w0 c f z V T n K9 G9 L9 v9]) _ := hP
  have hD : va_D A (List.flatten [clP cI cZ cS O k g a d w0 c f z V T n K9 G9 L9 v9]) := hD
  refine lv_eqi (y := sm (V 0 0) 8) (rfl) ?_
  refine lv_icmp_ne (tgt := 874) hx hb dL_holds_749 (by decide) (fun h => absurd rfl h) (fun _ => ?_)
  refine lv_iload_n hx hb dL_holds_752 rfl (lv_at hl 6 rfl) ?_
  refine lv_aload_n hx hb dL_holds_753 rfl (lv_at hl 7 rfl) ?_
  refine lv_iconst (v := 2) hx hb dL_holds_754 (by decide) ?_
  refine kcallVJ (U := Unit) (As := [.int 2]) (rest := [.int (sm (V 0 0) 8)]) (Wr := []) (Wc := [clP cI cZ cS O k g a d w0 c f z V T n K9 G9 L9 v9]) (Wo := fun u => [clP cI cZ cS O k g a d w0 c f z V T n K9 G9 L9 v9]) X (k_count l D cI cZ cS cJ O k g a d w0 c f z V T n K9 G9 L9 v9 2 (by omega)) (cwV 1 hts gL_holds_X6_count rfl rfl rfl (by decide +kernel) ⟨Nat.le_of_ble_eq_true rfl, Nat.le_of_ble_eq_true rfl⟩) hK hP hD hS hA 0 6 rfl rfl rfl hl.1 rfl (Nat.le_of_ble_eq_true rfl) dL_holds_755 ⟨Nat.le_of_ble_eq_true rfl, Nat.le_of_ble_eq_true rfl⟩ (fun u H locs hu hP hD hS => ?_)
  have hP : va_P D vwCl (List.flatten [clP cI cZ cS O k g a d w0 c f z V T n K9 G9 L9 v9]) _ := hP
  have hD : va_D A (List.flatten [clP cI cZ cS O k g a d w0 c f z V T n K9 G9 L9 v9]) := hD
  refine lv_eqi (y := sm (V 0 0) 8) (gas_2 hO hA9 hM) ?_
  refine lv_icmp_ne (tgt := 874) hx hb dL_holds_758 (by decide) (fun h => absurd rfl h) (fun _ => ?_)
  refine lv_iload_n hx hb dL_holds_761 rfl (lv_at hl 5 rfl) ?_
  refine lv_aload_n hx hb dL_holds_762 rfl (lv_at hl 7 rfl) ?_
  refine lv_bipush (v := 9) hx hb dL_holds_763 (by decide) ?_
  refine kcallVJ (U := Unit) (As := [.int 9]) (rest := [.int (sm (V 0 6) 8)]) (Wr := []) (Wc := [clP cI cZ cS O k g a d w0 c f z V T n K9 G9 L9 v9]) (Wo := fun u => [clP cI cZ cS O k g a d w0 c f z V T n K9 G9 L9 v9]) X (k_count l D cI cZ cS cJ O k g a d w0 c f z V T n K9 G9 L9 v9 9 (by omega)) (cwV 1 hts gL_holds_X6_count rfl rfl rfl (by decide +kernel) ⟨Nat.le_of_ble_eq_true rfl, Nat.le_of_ble_eq_true rfl⟩) hK hP hD hS hA 0 6 rfl rfl rfl hl.1 rfl (Nat.le_of_ble_eq_true rfl) dL_holds_765 ⟨Nat.le_of_ble_eq_true rfl, Nat.le_of_ble_eq_true rfl⟩ (fun u H locs hu hP hD hS => ?_)
  have hP : va_P D vwCl (List.flatten [clP cI cZ cS O k g a d w0 c f z V T n K9 G9 L9 v9]) _ := hP
  have hD : va_D A (List.flatten [clP cI cZ cS O k g a d w0 c f z V T n K9 G9 L9 v9]) := hD
  refine lv_eqi (y := sm (V 0 6) 8) (rfl) ?_
  refine lv_icmp_ne (tgt := 874) hx hb dL_holds_768 (by decide) (fun h => absurd rfl h) (fun _ => ?_)
  refine lv_iload_n hx hb dL_holds_771 rfl (lv_at hl 4 rfl) ?_
  refine lv_aload_n hx hb dL_holds_772 rfl (lv_at hl 7 rfl) ?_
  refine lv_bipush (v := 11) hx hb dL_holds_773 (by decide) ?_
  refine kcallVJ (U := Unit) (As := [.int 11]) (rest := [.int (sm (fun q => b1 (V 0 6 q = 0)) 8)]) (Wr := []) (Wc := [clP cI cZ cS O k g a d w0 c f z V T n K9 G9 L9 v9]) (Wo := fun u => [clP cI cZ cS O k g a d w0 c f z V T n K9 G9 L9 v9]) X (k_count l D cI cZ cS cJ O k g a d w0 c f z V T n K9 G9 L9 v9 11 (by omega)) (cwV 1 hts gL_holds_X6_count rfl rfl rfl (by decide +kernel) ⟨Nat.le_of_ble_eq_true rfl, Nat.le_of_ble_eq_true rfl⟩) hK hP hD hS hA 0 6 rfl rfl rfl hl.1 rfl (Nat.le_of_ble_eq_true rfl) dL_holds_775 ⟨Nat.le_of_ble_eq_true rfl, Nat.le_of_ble_eq_true rfl⟩ (fun u H locs hu hP hD hS => ?_)
  have hP : va_P D vwCl (List.flatten [clP cI cZ cS O k g a d w0 c f z V T n K9 G9 L9 v9]) _ := hP
  have hD : va_D A (List.flatten [clP cI cZ cS O k g a d w0 c f z V T n K9 G9 L9 v9]) := hD
  refine lv_eqi (y := sm (fun j => b1 (V 0 6 j = 0)) 8) (rfl) ?_
  refine lv_icmp_ne (tgt := 874) hx hb dL_holds_778 (by decide) (fun h => absurd rfl h) (fun _ => ?_)
  refine lv_iload hx hb dL_holds_781 (lv_at hl 3 rfl) ?_
  refine lv_aload_n hx hb dL_holds_783 rfl (lv_at hl 7 rfl) ?_
  refine lv_bipush (v := 6) hx hb dL_holds_784 (by decide) ?_
  refine kcallVJ (U := Unit) (As := [.int 6]) (rest := [.int (sm (fun q => b1 (¬ V 0 3 q = 0)) 7)]) (Wr := []) (Wc := [clP cI cZ cS O k g a d w0 c f z V T n K9 G9 L9 v9]) (Wo := fun u => [clP cI cZ cS O k g a d w0 c f z V T n K9 G9 L9 v9]) X (k_count l D cI cZ cS cJ O k g a d w0 c f z V T n K9 G9 L9 v9 6 (by omega)) (cwV 1 hts gL_holds_X6_count rfl rfl rfl (by decide +kernel) ⟨Nat.le_of_ble_eq_true rfl, Nat.le_of_ble_eq_true rfl⟩) hK hP hD hS hA 0 6 rfl rfl rfl hl.1 rfl (Nat.le_of_ble_eq_true rfl) dL_holds_786 ⟨Nat.le_of_ble_eq_true rfl, Nat.le_of_ble_eq_true rfl⟩ (fun u H locs hu hP hD hS => ?_)
  have hP : va_P D vwCl (List.flatten [clP cI cZ cS O k g a d w0 c f z V T n K9 G9 L9 v9]) _ := hP
  have hD : va_D A (List.flatten [clP cI cZ cS O k g a d w0 c f z V T n K9 G9 L9 v9]) := hD
  refine lv_eqi (y := sm (fun j => b1 (¬ V 0 3 j = 0)) 7) (rfl) ?_
  refine lv_icmp_ne (tgt := 874) hx hb dL_holds_789 (by decide) (fun h => absurd rfl h) (fun _ => ?_)
  refine lv_iload hx hb dL_holds_792 (lv_at hl 2 rfl) ?_
  refine lv_aload_n hx hb dL_holds_794 rfl (lv_at hl 7 rfl) ?_
  refine lv_bipush (v := 8) hx hb dL_holds_795 (by decide) ?_
  refine kcallVJ (U := Unit) (As := [.int 8]) (rest := [.int (sm (fun q => b1 (ss (V 0) q = q)) 8)]) (Wr := []) (Wc := [clP cI cZ cS O k g a d w0 c f z V T n K9 G9 L9 v9]) (Wo := fun u => [clP cI cZ cS O k g a d w0 c f z V T n K9 G9 L9 v9]) X (k_count l D cI cZ cS cJ O k g a d w0 c f z V T n K9 G9 L9 v9 8 (by omega)) (cwV 1 hts gL_holds_X6_count rfl rfl rfl (by decide +kernel) ⟨Nat.le_of_ble_eq_true rfl, Nat.le_of_ble_eq_true rfl⟩) hK hP hD hS hA 0 6 rfl rfl rfl hl.1 rfl (Nat.le_of_ble_eq_true rfl) dL_holds_797 ⟨Nat.le_of_ble_eq_true rfl, Nat.le_of_ble_eq_true rfl⟩ (fun u H locs hu hP hD hS => ?_)
  have hP : va_P D vwCl (List.flatten [clP cI cZ cS O k g a d w0 c f z V T n K9 G9 L9 v9]) _ := hP
  have hD : va_D A (List.flatten [clP cI cZ cS O k g a d w0 c f z V T n K9 G9 L9 v9]) := hD
  refine lv_eqi (y := 8 - sm (fun j => b1 (¬ V 0 3 j = 0)) 7) (rfl) ?_
  refine lv_icmp_ne (tgt := 874) hx hb dL_holds_800 (by decide) (fun h => absurd (strs (V 0) 7) h) (fun _ => ?_)
  refine lv_iload hx hb dL_holds_803 (lv_at hl 2 rfl) ?_
  refine lv_bipush (v := 8) hx hb dL_holds_805 (by decide) ?_
  refine lv_iload hx hb dL_holds_807 (lv_at hl 3 rfl) ?_
  refine lv_isub hx hb dL_holds_809 ?_
  refine lv_icmp_ne (tgt := 874) hx hb dL_holds_810 (by decide) (fun h => absurd (strs (V 0) 7) h) (fun _ => ?_)
  refine lv_aload_n hx hb dL_holds_813 rfl (lv_at hl 7 rfl) ?_
  refine lv_bipush (v := 13) hx hb dL_holds_814 (by decide) ?_
  refine kcallVJ (U := Unit) (As := [.int 13]) (rest := []) (Wr := []) (Wc := [clP cI cZ cS O k g a d w0 c f z V T n K9 G9 L9 v9]) (Wo := fun u => [clP cI cZ cS O k g a d w0 c f z V T n K9 G9 L9 v9]) X (k_count l D cI cZ cS cJ O k g a d w0 c f z V T n K9 G9 L9 v9 13 (by omega)) (cwV 1 hts gL_holds_X6_count rfl rfl rfl (by decide +kernel) ⟨Nat.le_of_ble_eq_true rfl, Nat.le_of_ble_eq_true rfl⟩) hK hP hD hS hA 0 6 rfl rfl rfl hl.1 rfl (Nat.le_of_ble_eq_true rfl) dL_holds_816 ⟨Nat.le_of_ble_eq_true rfl, Nat.le_of_ble_eq_true rfl⟩ (fun u H locs hu hP hD hS => ?_)
  have hP : va_P D vwCl (List.flatten [clP cI cZ cS O k g a d w0 c f z V T n K9 G9 L9 v9]) _ := hP
  have hD : va_D A (List.flatten [clP cI cZ cS O k g a d w0 c f z V T n K9 G9 L9 v9]) := hD
  refine lv_eqi (y := nI (cy (V 0))) (hO.2.2.1) ?_
  refine lv_bipush (v := 20) hx hb dL_holds_819 (by decide) ?_
  refine n_gt (i := cy (V 0)) (j := 20) (tgt := 874) hx hb (by omega) (by omega) dL_holds_821 (by decide) (fun h => absurd h (Nat.not_lt.mpr hO.2.2.2)) (fun c821 => ?_)
  refine lv_aload_n hx hb dL_holds_824 rfl (lv_at hl 7 rfl) ?_
  refine lv_aload_n hx hb dL_holds_825 rfl (lv_at hl 7 rfl) ?_
  refine lv_bipush (v := 13) hx hb dL_holds_826 (by decide) ?_
  refine kcallVJ (U := Unit) (As := [.int 13]) (rest := [.ref (O 0)]) (Wr := []) (Wc := [clP cI cZ cS O k g a d w0 c f z V T n K9 G9 L9 v9]) (Wo := fun u => [clP cI cZ cS O k g a d w0 c f z V T n K9 G9 L9 v9]) X (k_count l D cI cZ cS cJ O k g a d w0 c f z V T n K9 G9 L9 v9 13 (by omega)) (cwV 1 hts gL_holds_X6_count rfl rfl rfl (by decide +kernel) ⟨Nat.le_of_ble_eq_true rfl, Nat.le_of_ble_eq_true rfl⟩) hK hP hD hS hA 0 6 rfl rfl rfl hl.1 rfl (Nat.le_of_ble_eq_true rfl) dL_holds_828 ⟨Nat.le_of_ble_eq_true rfl, Nat.le_of_ble_eq_true rfl⟩ (fun u H locs hu hP hD hS => ?_)
  have hP : va_P D vwCl (List.flatten [clP cI cZ cS O k g a d w0 c f z V T n K9 G9 L9 v9]) _ := hP
  have hD : va_D A (List.flatten [clP cI cZ cS O k g a d w0 c f z V T n K9 G9 L9 v9]) := hD
  refine lv_eqi (y := nI (cy (V 0))) (hO.2.2.1) ?_
  refine lv_iconst (v := 0) hx hb dL_holds_831 (by decide) ?_
  refine kcallVJ (U := Unit) (As := [.int (nI (cy (V 0))), .int 0]) (rest := []) (Wr := []) (Wc := [clP cI cZ cS O k g a d w0 c f z V T n K9 G9 L9 v9]) (Wo := fun u => [clP cI cZ cS O k g a d w0 c f z V T n K9 G9 L9 v9]) X (k_noted l D cI cZ cS cJ O k g a d w0 c f z V T n K9 G9 L9 v9 (cy (V 0)) 0 hO (by omega) (by omega)) (cwV 2 hts gL_holds_X6_noted rfl rfl rfl (by decide +kernel) ⟨Nat.le_of_ble_eq_true rfl, Nat.le_of_ble_eq_true rfl⟩) hK hP hD hS hA 0 6 rfl rfl rfl hl.1 rfl (Nat.le_of_ble_eq_true rfl) dL_holds_832 ⟨Nat.le_of_ble_eq_true rfl, Nat.le_of_ble_eq_true rfl⟩ (fun u H locs hu hP hD hS => ?_)
  have hP : va_P D vwCl (List.flatten [clP cI cZ cS O k g a d w0 c f z V T n K9 G9 L9 v9]) _ := hP
  have hD : va_D A (List.flatten [clP cI cZ cS O k g a d w0 c f z V T n K9 G9 L9 v9]) := hD
  refine lv_eqi (y := -1000) (ntl_out) ?_
  refine lv_sipush (v := (-1000)) hx hb dL_holds_835 (by decide) ?_
  refine lv_icmp_ne (tgt := 874) hx hb dL_holds_838 (by decide) (fun h => absurd rfl h) (fun _ => ?_)
  refine lv_aload_n hx hb dL_holds_841 rfl (lv_at hl 7 rfl) ?_
  refine kcallVJ (U := Unit) (As := []) (rest := []) (Wr := []) (Wc := [clP cI cZ cS O k g a d w0 c f z V T n K9 G9 L9 v9]) (Wo := fun u => [clP cI cZ cS O k g a d w0 c f z V T n K9 G9 L9 v9]) X (k_meanHeight l D cI cZ cS cJ O k g a d w0 c f z V T n K9 G9 L9 v9 hO) (cwV 0 hts gL_holds_X6_meanHeight rfl rfl rfl (by decide +kernel) ⟨Nat.le_of_ble_eq_true rfl, Nat.le_of_ble_eq_true rfl⟩) hK hP hD hS hA 0 6 rfl rfl rfl hl.1 rfl (Nat.le_of_ble_eq_true rfl) dL_holds_842 ⟨Nat.le_of_ble_eq_true rfl, Nat.le_of_ble_eq_true rfl⟩ (fun u H locs hu hP hD hS => ?_)
  have hP : va_P D vwCl (List.flatten [clP cI cZ cS O k g a d w0 c f z V T n K9 G9 L9 v9]) _ := hP
  have hD : va_D A (List.flatten [clP cI cZ cS O k g a d w0 c f z V T n K9 G9 L9 v9]) := hD
  refine lv_ldc2d (v := 4651998512748167168) hx hb hown (hts (.constantDouble RL 87 4651998512748167168) (by decide +kernel)) dL_holds_845 ?_
  refine lv_dcmp hx hb dL_holds_848 ?_
  refine lv_if_gt (tgt := 874) hx hb dL_holds_849 (by decide) (fun h => absurd h (Int32.not_lt.mpr (okM_of (hsm_in hO.1)).2)) (fun _ => ?_)
  refine lv_aload_n hx hb dL_holds_852 rfl (lv_at hl 7 rfl) ?_
  refine kcallVJ (U := Unit) (As := []) (rest := []) (Wr := []) (Wc := [clP cI cZ cS O k g a d w0 c f z V T n K9 G9 L9 v9]) (Wo := fun u => [clP cI cZ cS O k g a d w0 c f z V T n K9 G9 L9 v9]) X (k_lostShare l D cI cZ cS cJ O k g a d w0 c f z V T n K9 G9 L9 v9 hL.1) (cwV 0 hts gL_holds_X6_lostShare rfl rfl rfl (by decide +kernel) ⟨Nat.le_of_ble_eq_true rfl, Nat.le_of_ble_eq_true rfl⟩) hK hP hD hS hA 0 6 rfl rfl rfl hl.1 rfl (Nat.le_of_ble_eq_true rfl) dL_holds_853 ⟨Nat.le_of_ble_eq_true rfl, Nat.le_of_ble_eq_true rfl⟩ (fun u H locs hu hP hD hS => ?_)
  have hP : va_P D vwCl (List.flatten [clP cI cZ cS O k g a d w0 c f z V T n K9 G9 L9 v9]) _ := hP
  have hD : va_D A (List.flatten [clP cI cZ cS O k g a d w0 c f z V T n K9 G9 L9 v9]) := hD
  refine lv_fconst0 hx hb dL_holds_856 ?_
  refine lv_fcmp hx hb dL_holds_857 ?_
  refine lv_if_lt (tgt := 874) hx hb dL_holds_858 (by decide) (fun h => absurd h hL.2.1) (fun _ => ?_)
  refine lv_aload_n hx hb dL_holds_861 rfl (lv_at hl 7 rfl) ?_
  refine kcallVJ (U := Unit) (As := []) (rest := []) (Wr := []) (Wc := [clP cI cZ cS O k g a d w0 c f z V T n K9 G9 L9 v9]) (Wo := fun u => [clP cI cZ cS O k g a d w0 c f z V T n K9 G9 L9 v9]) X (k_lostShare l D cI cZ cS cJ O k g a d w0 c f z V T n K9 G9 L9 v9 hL.1) (cwV 0 hts gL_holds_X6_lostShare rfl rfl rfl (by decide +kernel) ⟨Nat.le_of_ble_eq_true rfl, Nat.le_of_ble_eq_true rfl⟩) hK hP hD hS hA 0 6 rfl rfl rfl hl.1 rfl (Nat.le_of_ble_eq_true rfl) dL_holds_862 ⟨Nat.le_of_ble_eq_true rfl, Nat.le_of_ble_eq_true rfl⟩ (fun u H locs hu hP hD hS => ?_)
  have hP : va_P D vwCl (List.flatten [clP cI cZ cS O k g a d w0 c f z V T n K9 G9 L9 v9]) _ := hP
  have hD : va_D A (List.flatten [clP cI cZ cS O k g a d w0 c f z V T n K9 G9 L9 v9]) := hD
  refine lv_fconst1 hx hb dL_holds_865 ?_
  refine lv_fcmp hx hb dL_holds_866 ?_
  refine lv_if_gt (tgt := 874) hx hb dL_holds_867 (by decide) (fun h => absurd h hL.2.2) (fun _ => ?_)
  refine lv_iconst (v := 1) hx hb dL_holds_870 (by decide) ?_
  refine lv_goto (tgt := 875) hx hb dL_holds_871 (by decide) ?_
  exact hend (K9, G9, L9, v9) 1 _ _ _ _ trivial rfl hP hD hS dL_holds_875

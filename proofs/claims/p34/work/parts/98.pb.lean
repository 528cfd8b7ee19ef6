/-! the law's look at all that can be seen -/
set_option maxHeartbeats 4000000 in
set_option maxRecDepth 100000 in
theorem c_L_looks (l : Launch) (D : va_G) (cI cZ cS cJ : ClassId) (O k g a d : Nat → Nat) (w0 : Int32) (c : Nat → Nat → Nat) (f : Nat → Option Nat) (z : Nat) (V : Nat → Nat → Nat → Int32) (T : Nat → Int32) (n : Nat) (K G : Nat → Nat → Int32) (L : Nat → Int32) (v : Int32) (hO : OK (V 0)) : CE (U := Unit) l yL_looks wsL_looks RM_looks D (tyL cI cZ cS cJ) [.ref (O 0)] (List.flatten [clP cI cZ cS O k g a d w0 c f z V T n K G L v]) (fun _ => True) (fun _ => some (.long (lkS (V 0)))) (fun _ => List.flatten [clP cI cZ cS O k g a d w0 c f z V T n K G L v]) 0 0 := by
  refine CE_long (cc := cL_looks) (maxL := 4) (by decide) rfl (Nat.le_of_ble_eq_true rfl) ?_
  intro p e s m below meth cd A ls Q X hK hP hD hS hA hl hend
  have X : CallFix p m cd cL_looks 4 s ([.ref (O 0)] : List Value).toArray wsL_looks RL := X
  obtain ⟨hx, hb, hml, hown, hts⟩ := id X
  have hl : lv_has ls 4 [(0, .ref (O 0))] := hl
  refine lv_ldc2 (v := 127) hx hb hown (hts (.constantLong RL 9 127) (by decide +kernel)) dL_looks_0 ?_
  refine lv_lstore_n (lv' := [(1, .long 127), (0, .ref (O 0))]) hx hb dL_looks_3 rfl hl (by decide) rfl (fun ls hl => ?_)
  refine lv_iconst (v := 0) hx hb dL_looks_4 (by decide) ?_
  refine lv_istore_n (lv' := [(3, .int 0), (1, .long 127), (0, .ref (O 0))]) hx hb dL_looks_5 rfl hl (by decide) rfl (fun ls hl => ?_)
  have lpA : ∀ (nn i : Nat), i ≤ 14 → 14 - i < nn → ∀ (H : Heap) (locs : List Loc) (ls : Array Slot), va_P D vwCl (List.flatten [clP cI cZ cS O k g a d w0 c f z V T n K G L v]) H → va_D A (List.flatten [clP cI cZ cS O k g a d w0 c f z V T n K G L v]) → va_S A s.heap H locs → lv_has ls 4 [(0, .ref (O 0)), (1, .long (hm (cntS (V 0) 0) i 127)), (3, .int (nI i))] → W p l e RM_looks s m (([.ref (O 0)] : List Value).toArray) below meth cd H locs 0 0 Q (F0 m 6 ls []) := by
    intro nn
    induction nn with
    | zero => intro i hi hms; exact absurd hms (Nat.not_lt_zero _)
    | succ nn ih =>
      intro i hi hms H locs ls hP hD hS hl
      refine lv_iload_n hx hb dL_looks_6 rfl (lv_at hl 2 rfl) ?_
      refine lv_bipush (v := 14) hx hb dL_looks_7 (by decide) ?_
      refine n_ge (i := i) (j := 14) (tgt := 31) hx hb (by omega) (by omega) dL_looks_9 (by decide) (fun c9 => ?_) (fun c9 => ?_)
      · skip
        obtain rfl : i = 14 := by omega
        have hl : lv_has ls 4 [(0, .ref (O 0)), (1, .long (hm (cntS (V 0) 0) 14 127)), (3, .int (nI 14))] := hl
        refine lv_iconst (v := 0) hx hb dL_looks_31 (by decide) ?_
        refine lv_istore_n (lv' := [(3, .int 0), (0, .ref (O 0)), (1, .long (hm (cntS (V 0) 0) 14 127))]) hx hb dL_looks_32 rfl hl (by decide) rfl (fun ls hl => ?_)
        have lpB : ∀ (nn i : Nat), i ≤ 96 → 96 - i < nn → ∀ (H : Heap) (locs : List Loc) (ls : Array Slot), va_P D vwCl (List.flatten [clP cI cZ cS O k g a d w0 c f z V T n K G L v]) H → va_D A (List.flatten [clP cI cZ cS O k g a d w0 c f z V T n K G L v]) → va_S A s.heap H locs → lv_has ls 4 [(0, .ref (O 0)), (1, .long (hm (bq (V 0)) i (hm (cntS (V 0) 0) 14 127))), (3, .int (nI i))] → W p l e RM_looks s m (([.ref (O 0)] : List Value).toArray) below meth cd H locs 0 0 Q (F0 m 33 ls []) := by
          intro nn
          induction nn with
          | zero => intro i hi hms; exact absurd hms (Nat.not_lt_zero _)
          | succ nn ih =>
            intro i hi hms H locs ls hP hD hS hl
            refine lv_iload_n hx hb dL_looks_33 rfl (lv_at hl 2 rfl) ?_
            refine lv_bipush (v := 96) hx hb dL_looks_34 (by decide) ?_
            refine n_ge (i := i) (j := 96) (tgt := 65) hx hb (by omega) (by omega) dL_looks_36 (by decide) (fun c36 => ?_) (fun c36 => ?_)
            · skip
              obtain rfl : i = 96 := by omega
              have hl : lv_has ls 4 [(0, .ref (O 0)), (1, .long (hm (bq (V 0)) 96 (hm (cntS (V 0) 0) 14 127))), (3, .int (nI 96))] := hl
              refine lv_iconst (v := 0) hx hb dL_looks_65 (by decide) ?_
              refine lv_istore_n (lv' := [(3, .int 0), (0, .ref (O 0)), (1, .long (hm (bq (V 0)) 96 (hm (cntS (V 0) 0) 14 127)))]) hx hb dL_looks_66 rfl hl (by decide) rfl (fun ls hl => ?_)
              have lpC : ∀ (nn i : Nat), i ≤ 60 → 60 - i < nn → ∀ (H : Heap) (locs : List Loc) (ls : Array Slot), va_P D vwCl (List.flatten [clP cI cZ cS O k g a d w0 c f z V T n K G L v]) H → va_D A (List.flatten [clP cI cZ cS O k g a d w0 c f z V T n K G L v]) → va_S A s.heap H locs → lv_has ls 4 [(0, .ref (O 0)), (1, .long (lkC (V 0) i (hm (bq (V 0)) 96 (hm (cntS (V 0) 0) 14 127)))), (3, .int (nI i))] → W p l e RM_looks s m (([.ref (O 0)] : List Value).toArray) below meth cd H locs 0 0 Q (F0 m 67 ls []) := by
                intro nn
                induction nn with
                | zero => intro i hi hms; exact absurd hms (Nat.not_lt_zero _)
                | succ nn ih =>
                  intro i hi hms H locs ls hP hD hS hl
                  refine lv_iload_n hx hb dL_looks_67 rfl (lv_at hl 2 rfl) ?_
                  refine lv_bipush (v := 60) hx hb dL_looks_68 (by decide) ?_
                  refine n_ge (i := i) (j := 60) (tgt := 123) hx hb (by omega) (by omega) dL_looks_70 (by decide) (fun c70 => ?_) (fun c70 => ?_)
                  · skip
                    obtain rfl : i = 60 := by omega
                    have hl : lv_has ls 4 [(0, .ref (O 0)), (1, .long (lkC (V 0) 60 (hm (bq (V 0)) 96 (hm (cntS (V 0) 0) 14 127)))), (3, .int (nI 60))] := hl
                    refine lv_ldc2 (v := 31) hx hb hown (hts (.constantLong RL 11 31) (by decide +kernel)) dL_looks_123 ?_
                    refine lv_ldc2 (v := 31) hx hb hown (hts (.constantLong RL 11 31) (by decide +kernel)) dL_looks_126 ?_
                    refine lv_lload_n hx hb dL_looks_129 rfl (lv_at hl 1 rfl) ?_
                    refine lv_lmul hx hb dL_looks_130 ?_
                    refine lv_aload_n hx hb dL_looks_131 rfl (lv_at hl 0 rfl) ?_
                    refine lv_iconst (v := 0) hx hb dL_looks_132 (by decide) ?_
                    refine kcallVJ (U := Unit) (As := [.int 0]) (rest := [.long (31 * (lkC (V 0) 60 (hm (bq (V 0)) 96 (hm (cntS (V 0) 0) 14 127)))), .long 31]) (Wr := []) (Wc := [clP cI cZ cS O k g a d w0 c f z V T n K G L v]) (Wo := fun u => [clP cI cZ cS O k g a d w0 c f z V T n K G L v]) X (k_stopped l D cI cZ cS cJ O k g a d w0 c f z V T n K G L v 0 (by omega)) (cwV 1 hts gL_looks_X6_stopped rfl rfl rfl (by decide +kernel) ⟨Nat.le_of_ble_eq_true rfl, Nat.le_of_ble_eq_true rfl⟩) hK hP hD hS hA 0 6 rfl rfl rfl hl.1 rfl (Nat.le_of_ble_eq_true rfl) dL_looks_133 ⟨Nat.le_of_ble_eq_true rfl, Nat.le_of_ble_eq_true rfl⟩ (fun u H locs hu hP hD hS => ?_)
                    have hP : va_P D vwCl (List.flatten [clP cI cZ cS O k g a d w0 c f z V T n K G L v]) _ := hP
                    have hD : va_D A (List.flatten [clP cI cZ cS O k g a d w0 c f z V T n K G L v]) := hD
                    refine lv_eqi (y := stoS (V 0) 0) (rfl) ?_
                    refine lv_i2l (v := (stoS (V 0) 0).toInt64) hx hb dL_looks_136 rfl ?_
                    refine lv_ladd hx hb dL_looks_137 ?_
                    refine lv_lmul hx hb dL_looks_138 ?_
                    refine lv_aload_n hx hb dL_looks_139 rfl (lv_at hl 0 rfl) ?_
                    refine lv_iconst (v := 1) hx hb dL_looks_140 (by decide) ?_
                    refine kcallVJ (U := Unit) (As := [.int 1]) (rest := [.long (31 * ((31 * (lkC (V 0) 60 (hm (bq (V 0)) 96 (hm (cntS (V 0) 0) 14 127)))) + ((stoS (V 0) 0).toInt64)))]) (Wr := []) (Wc := [clP cI cZ cS O k g a d w0 c f z V T n K G L v]) (Wo := fun u => [clP cI cZ cS O k g a d w0 c f z V T n K G L v]) X (k_stopped l D cI cZ cS cJ O k g a d w0 c f z V T n K G L v 1 (by omega)) (cwV 1 hts gL_looks_X6_stopped rfl rfl rfl (by decide +kernel) ⟨Nat.le_of_ble_eq_true rfl, Nat.le_of_ble_eq_true rfl⟩) hK hP hD hS hA 0 6 rfl rfl rfl hl.1 rfl (Nat.le_of_ble_eq_true rfl) dL_looks_141 ⟨Nat.le_of_ble_eq_true rfl, Nat.le_of_ble_eq_true rfl⟩ (fun u H locs hu hP hD hS => ?_)
                    have hP : va_P D vwCl (List.flatten [clP cI cZ cS O k g a d w0 c f z V T n K G L v]) _ := hP
                    have hD : va_D A (List.flatten [clP cI cZ cS O k g a d w0 c f z V T n K G L v]) := hD
                    refine lv_eqi (y := stoS (V 0) 1) (rfl) ?_
                    refine lv_i2l (v := (stoS (V 0) 1).toInt64) hx hb dL_looks_144 rfl ?_
                    refine lv_ladd hx hb dL_looks_145 ?_
                    exact hend () _ _ _ _ _ trivial rfl hP hD hS dL_looks_146
                  · skip
                    refine lv_ldc2 (v := 31) hx hb hown (hts (.constantLong RL 11 31) (by decide +kernel)) dL_looks_73 ?_
                    refine lv_ldc2 (v := 31) hx hb hown (hts (.constantLong RL 11 31) (by decide +kernel)) dL_looks_76 ?_
                    refine lv_lload_n hx hb dL_looks_79 rfl (lv_at hl 1 rfl) ?_
                    refine lv_lmul hx hb dL_looks_80 ?_
                    refine lv_aload_n hx hb dL_looks_81 rfl (lv_at hl 0 rfl) ?_
                    refine lv_iload_n hx hb dL_looks_82 rfl (lv_at hl 2 rfl) ?_
                    refine lv_iconst (v := 3) hx hb dL_looks_83 (by decide) ?_
                    refine lv_idiv hx hb dL_looks_84 (by decide) ?_
                    refine lv_eqi (y := nI (i / 3)) (pk_div (a := i) (d := 3) (by omega) (by decide) (by decide)) ?_
                    refine lv_iload_n hx hb dL_looks_85 rfl (lv_at hl 2 rfl) ?_
                    refine lv_iconst (v := 3) hx hb dL_looks_86 (by decide) ?_
                    refine lv_irem hx hb dL_looks_87 (by decide) ?_
                    refine lv_eqi (y := nI (i % 3)) (pk_rem (a := i) (d := 3) (by omega) (by decide) (by decide)) ?_
                    refine kcallVJ (U := Unit) (As := [.int (nI (i / 3)), .int (nI (i % 3))]) (rest := [.long (31 * (lkC (V 0) i (hm (bq (V 0)) 96 (hm (cntS (V 0) 0) 14 127)))), .long 31]) (Wr := []) (Wc := [clP cI cZ cS O k g a d w0 c f z V T n K G L v]) (Wo := fun u => [clP cI cZ cS O k g a d w0 c f z V T n K G L v]) X (k_noted l D cI cZ cS cJ O k g a d w0 c f z V T n K G L v (i / 3) (i % 3) hO (by omega) (by omega)) (cwV 2 hts gL_looks_X6_noted rfl rfl rfl (by decide +kernel) ⟨Nat.le_of_ble_eq_true rfl, Nat.le_of_ble_eq_true rfl⟩) hK hP hD hS hA 0 6 rfl rfl rfl hl.1 rfl (Nat.le_of_ble_eq_true rfl) dL_looks_88 ⟨Nat.le_of_ble_eq_true rfl, Nat.le_of_ble_eq_true rfl⟩ (fun u H locs hu hP hD hS => ?_)
                    have hP : va_P D vwCl (List.flatten [clP cI cZ cS O k g a d w0 c f z V T n K G L v]) _ := hP
                    have hD : va_D A (List.flatten [clP cI cZ cS O k g a d w0 c f z V T n K G L v]) := hD
                    refine lv_eqi (y := ntl (V 0) (cy (V 0)) (i / 3) (i % 3)) (rfl) ?_
                    refine lv_i2l (v := (ntl (V 0) (cy (V 0)) (i / 3) (i % 3)).toInt64) hx hb dL_looks_91 rfl ?_
                    refine lv_ladd hx hb dL_looks_92 ?_
                    refine lv_lmul hx hb dL_looks_93 ?_
                    refine lv_iload_n hx hb dL_looks_94 rfl (lv_at hl 2 rfl) ?_
                    refine lv_bipush (v := 35) hx hb dL_looks_95 (by decide) ?_
                    refine n_ge (i := i) (j := 35) (tgt := 113) hx hb (by omega) (by omega) dL_looks_97 (by decide) (fun c97 => ?_) (fun c97 => ?_)
                    · skip
                      refine lv_iconst (v := 0) hx hb dL_looks_113 (by decide) ?_
                      refine lv_i2l (v := (0 : Int32).toInt64) hx hb dL_looks_114 rfl ?_
                      refine lv_ladd hx hb dL_looks_115 ?_
                      refine lv_lstore_n (lv' := [(1, .long ((31 * ((31 * (lkC (V 0) i (hm (bq (V 0)) 96 (hm (cntS (V 0) 0) 14 127)))) + ((ntl (V 0) (cy (V 0)) (i / 3) (i % 3)).toInt64))) + ((0 : Int32).toInt64))), (0, .ref (O 0)), (3, .int (nI i))]) hx hb dL_looks_116 rfl hl (by decide) rfl (fun ls hl => ?_)
                      refine lv_iinc (v := nI (i + 1)) (lv' := [(3, .int (nI (i + 1))), (1, .long ((31 * ((31 * (lkC (V 0) i (hm (bq (V 0)) 96 (hm (cntS (V 0) 0) 14 127)))) + ((ntl (V 0) (cy (V 0)) (i / 3) (i % 3)).toInt64))) + ((0 : Int32).toInt64))), (0, .ref (O 0))]) hx hb dL_looks_117 hl (k := 2) rfl (nI_add _ _) (by decide) rfl (fun ls hl => ?_)
                      refine lv_goto (tgt := 67) hx hb dL_looks_120 (by decide) ?_
                      have hl : lv_has ls 4 [(3, .int (nI (i + 1))), (1, .long (lkC (V 0) (i + 1) (hm (bq (V 0)) 96 (hm (cntS (V 0) 0) 14 127)))), (0, .ref (O 0))] := lv_reg hl 1 (x := .long ((31 * ((31 * (lkC (V 0) i (hm (bq (V 0)) 96 (hm (cntS (V 0) 0) 14 127)))) + ((ntl (V 0) (cy (V 0)) (i / 3) (i % 3)).toInt64))) + ((0 : Int32).toInt64))) (y := .long (lkC (V 0) (i + 1) (hm (bq (V 0)) 96 (hm (cntS (V 0) 0) 14 127)))) rfl (congrArg Value.long (lkC_b _ (by omega))) rfl
                      exact ih (i + 1) (by omega) (by omega) _ _ _ hP hD hS (lv_sub hl [2, 1, 0] rfl)
                    · skip
                      refine lv_aload_n hx hb dL_looks_100 rfl (lv_at hl 0 rfl) ?_
                      refine lv_iload_n hx hb dL_looks_101 rfl (lv_at hl 2 rfl) ?_
                      refine lv_iconst (v := 5) hx hb dL_looks_102 (by decide) ?_
                      refine lv_idiv hx hb dL_looks_103 (by decide) ?_
                      refine lv_eqi (y := nI (i / 5)) (pk_div (a := i) (d := 5) (by omega) (by decide) (by decide)) ?_
                      refine lv_iload_n hx hb dL_looks_104 rfl (lv_at hl 2 rfl) ?_
                      refine lv_iconst (v := 5) hx hb dL_looks_105 (by decide) ?_
                      refine lv_irem hx hb dL_looks_106 (by decide) ?_
                      refine lv_eqi (y := nI (i % 5)) (pk_rem (a := i) (d := 5) (by omega) (by decide) (by decide)) ?_
                      refine kcallVJ (U := Unit) (As := [.int (nI (i / 5)), .int (nI (i % 5))]) (rest := [.long (31 * ((31 * (lkC (V 0) i (hm (bq (V 0)) 96 (hm (cntS (V 0) 0) 14 127)))) + ((ntl (V 0) (cy (V 0)) (i / 3) (i % 3)).toInt64)))]) (Wr := []) (Wc := [clP cI cZ cS O k g a d w0 c f z V T n K G L v]) (Wo := fun u => [clP cI cZ cS O k g a d w0 c f z V T n K G L v]) X (k_ribbon l D cI cZ cS cJ O k g a d w0 c f z V T n K G L v (i / 5) (i % 5) (by omega) (by omega)) (cwV 2 hts gL_looks_X6_ribbon rfl rfl rfl (by decide +kernel) ⟨Nat.le_of_ble_eq_true rfl, Nat.le_of_ble_eq_true rfl⟩) hK hP hD hS hA 0 6 rfl rfl rfl hl.1 rfl (Nat.le_of_ble_eq_true rfl) dL_looks_107 ⟨Nat.le_of_ble_eq_true rfl, Nat.le_of_ble_eq_true rfl⟩ (fun u H locs hu hP hD hS => ?_)
                      have hP : va_P D vwCl (List.flatten [clP cI cZ cS O k g a d w0 c f z V T n K G L v]) _ := hP
                      have hD : va_D A (List.flatten [clP cI cZ cS O k g a d w0 c f z V T n K G L v]) := hD
                      refine lv_eqi (y := ribS (V 0) (i / 5) (i % 5)) (rfl) ?_
                      refine lv_goto (tgt := 114) hx hb dL_looks_110 (by decide) ?_
                      refine lv_i2l (v := (ribS (V 0) (i / 5) (i % 5)).toInt64) hx hb dL_looks_114 rfl ?_
                      refine lv_ladd hx hb dL_looks_115 ?_
                      refine lv_lstore_n (lv' := [(1, .long ((31 * ((31 * (lkC (V 0) i (hm (bq (V 0)) 96 (hm (cntS (V 0) 0) 14 127)))) + ((ntl (V 0) (cy (V 0)) (i / 3) (i % 3)).toInt64))) + ((ribS (V 0) (i / 5) (i % 5)).toInt64))), (0, .ref (O 0)), (3, .int (nI i))]) hx hb dL_looks_116 rfl hl (by decide) rfl (fun ls hl => ?_)
                      refine lv_iinc (v := nI (i + 1)) (lv' := [(3, .int (nI (i + 1))), (1, .long ((31 * ((31 * (lkC (V 0) i (hm (bq (V 0)) 96 (hm (cntS (V 0) 0) 14 127)))) + ((ntl (V 0) (cy (V 0)) (i / 3) (i % 3)).toInt64))) + ((ribS (V 0) (i / 5) (i % 5)).toInt64))), (0, .ref (O 0))]) hx hb dL_looks_117 hl (k := 2) rfl (nI_add _ _) (by decide) rfl (fun ls hl => ?_)
                      refine lv_goto (tgt := 67) hx hb dL_looks_120 (by decide) ?_
                      have hl : lv_has ls 4 [(3, .int (nI (i + 1))), (1, .long (lkC (V 0) (i + 1) (hm (bq (V 0)) 96 (hm (cntS (V 0) 0) 14 127)))), (0, .ref (O 0))] := lv_reg hl 1 (x := .long ((31 * ((31 * (lkC (V 0) i (hm (bq (V 0)) 96 (hm (cntS (V 0) 0) 14 127)))) + ((ntl (V 0) (cy (V 0)) (i / 3) (i % 3)).toInt64))) + ((ribS (V 0) (i / 5) (i % 5)).toInt64))) (y := .long (lkC (V 0) (i + 1) (hm (bq (V 0)) 96 (hm (cntS (V 0) 0) 14 127)))) rfl (congrArg Value.long (lkC_a _ c97)) rfl
                      exact ih (i + 1) (by omega) (by omega) _ _ _ hP hD hS (lv_sub hl [2, 1, 0] rfl)
              have hl : lv_has ls 4 [(3, .int 0), (0, .ref (O 0)), (1, .long (lkC (V 0) 0 (hm (bq (V 0)) 96 (hm (cntS (V 0) 0) 14 127))))] := lv_reg hl 2 (x := .long (hm (bq (V 0)) 96 (hm (cntS (V 0) 0) 14 127))) (y := .long (lkC (V 0) 0 (hm (bq (V 0)) 96 (hm (cntS (V 0) 0) 14 127)))) rfl (congrArg Value.long (rfl)) rfl
              have hl : lv_has ls 4 [(3, .int (nI 0)), (0, .ref (O 0)), (1, .long (lkC (V 0) 0 (hm (bq (V 0)) 96 (hm (cntS (V 0) 0) 14 127))))] := lv_re hl 0 (x := 0) (y := nI 0) rfl (rfl) rfl
              exact lpC 61 0 (by omega) (by omega) _ _ _ hP hD hS (lv_sub hl [1, 2, 0] rfl)
            · skip
              refine lv_ldc2 (v := 31) hx hb hown (hts (.constantLong RL 11 31) (by decide +kernel)) dL_looks_39 ?_
              refine lv_lload_n hx hb dL_looks_42 rfl (lv_at hl 1 rfl) ?_
              refine lv_lmul hx hb dL_looks_43 ?_
              refine lv_aload_n hx hb dL_looks_44 rfl (lv_at hl 0 rfl) ?_
              refine lv_iload_n hx hb dL_looks_45 rfl (lv_at hl 2 rfl) ?_
              refine lv_bipush (v := 12) hx hb dL_looks_46 (by decide) ?_
              refine lv_idiv hx hb dL_looks_48 (by decide) ?_
              refine lv_eqi (y := nI (i / 12)) (pk_div (a := i) (d := 12) (by omega) (by decide) (by decide)) ?_
              refine lv_iload_n hx hb dL_looks_49 rfl (lv_at hl 2 rfl) ?_
              refine lv_bipush (v := 12) hx hb dL_looks_50 (by decide) ?_
              refine lv_irem hx hb dL_looks_52 (by decide) ?_
              refine lv_eqi (y := nI (i % 12)) (pk_rem (a := i) (d := 12) (by omega) (by decide) (by decide)) ?_
              refine kcallVJ (U := Unit) (As := [.int (nI (i / 12)), .int (nI (i % 12))]) (rest := [.long (31 * (hm (bq (V 0)) i (hm (cntS (V 0) 0) 14 127)))]) (Wr := []) (Wc := [clP cI cZ cS O k g a d w0 c f z V T n K G L v]) (Wo := fun u => [clP cI cZ cS O k g a d w0 c f z V T n K G L v]) X (k_balloon l D cI cZ cS cJ O k g a d w0 c f z V T n K G L v (i / 12) (i % 12) (by omega) (by omega)) (cwV 2 hts gL_looks_X6_balloon rfl rfl rfl (by decide +kernel) ⟨Nat.le_of_ble_eq_true rfl, Nat.le_of_ble_eq_true rfl⟩) hK hP hD hS hA 0 6 rfl rfl rfl hl.1 rfl (Nat.le_of_ble_eq_true rfl) dL_looks_53 ⟨Nat.le_of_ble_eq_true rfl, Nat.le_of_ble_eq_true rfl⟩ (fun u H locs hu hP hD hS => ?_)
              have hP : va_P D vwCl (List.flatten [clP cI cZ cS O k g a d w0 c f z V T n K G L v]) _ := hP
              have hD : va_D A (List.flatten [clP cI cZ cS O k g a d w0 c f z V T n K G L v]) := hD
              refine lv_eqi (y := bq (V 0) i) (rfl) ?_
              refine lv_i2l (v := (bq (V 0) i).toInt64) hx hb dL_looks_56 rfl ?_
              refine lv_ladd hx hb dL_looks_57 ?_
              refine lv_lstore_n (lv' := [(1, .long ((31 * (hm (bq (V 0)) i (hm (cntS (V 0) 0) 14 127))) + ((bq (V 0) i).toInt64))), (0, .ref (O 0)), (3, .int (nI i))]) hx hb dL_looks_58 rfl hl (by decide) rfl (fun ls hl => ?_)
              refine lv_iinc (v := nI (i + 1)) (lv' := [(3, .int (nI (i + 1))), (1, .long ((31 * (hm (bq (V 0)) i (hm (cntS (V 0) 0) 14 127))) + ((bq (V 0) i).toInt64))), (0, .ref (O 0))]) hx hb dL_looks_59 hl (k := 2) rfl (nI_add _ _) (by decide) rfl (fun ls hl => ?_)
              refine lv_goto (tgt := 33) hx hb dL_looks_62 (by decide) ?_
              have hl : lv_has ls 4 [(3, .int (nI (i + 1))), (1, .long (hm (bq (V 0)) (i + 1) (hm (cntS (V 0) 0) 14 127))), (0, .ref (O 0))] := lv_reg hl 1 (x := .long ((31 * (hm (bq (V 0)) i (hm (cntS (V 0) 0) 14 127))) + ((bq (V 0) i).toInt64))) (y := .long (hm (bq (V 0)) (i + 1) (hm (cntS (V 0) 0) 14 127))) rfl (congrArg Value.long (hm_s _ _ _)) rfl
              exact ih (i + 1) (by omega) (by omega) _ _ _ hP hD hS (lv_sub hl [2, 1, 0] rfl)
        have hl : lv_has ls 4 [(3, .int 0), (0, .ref (O 0)), (1, .long (hm (bq (V 0)) 0 (hm (cntS (V 0) 0) 14 127)))] := lv_reg hl 2 (x := .long (hm (cntS (V 0) 0) 14 127)) (y := .long (hm (bq (V 0)) 0 (hm (cntS (V 0) 0) 14 127))) rfl (congrArg Value.long (rfl)) rfl
        have hl : lv_has ls 4 [(3, .int (nI 0)), (0, .ref (O 0)), (1, .long (hm (bq (V 0)) 0 (hm (cntS (V 0) 0) 14 127)))] := lv_re hl 0 (x := 0) (y := nI 0) rfl (rfl) rfl
        exact lpB 97 0 (by omega) (by omega) _ _ _ hP hD hS (lv_sub hl [1, 2, 0] rfl)
      · skip
        refine lv_ldc2 (v := 31) hx hb hown (hts (.constantLong RL 11 31) (by decide +kernel)) dL_looks_12 ?_
        refine lv_lload_n hx hb dL_looks_15 rfl (lv_at hl 1 rfl) ?_
        refine lv_lmul hx hb dL_looks_16 ?_
        refine lv_aload_n hx hb dL_looks_17 rfl (lv_at hl 0 rfl) ?_
        refine lv_iload_n hx hb dL_looks_18 rfl (lv_at hl 2 rfl) ?_
        refine kcallVJ (U := Unit) (As := [.int (nI i)]) (rest := [.long (31 * (hm (cntS (V 0) 0) i 127))]) (Wr := []) (Wc := [clP cI cZ cS O k g a d w0 c f z V T n K G L v]) (Wo := fun u => [clP cI cZ cS O k g a d w0 c f z V T n K G L v]) X (k_count l D cI cZ cS cJ O k g a d w0 c f z V T n K G L v i (by omega)) (cwV 1 hts gL_looks_X6_count rfl rfl rfl (by decide +kernel) ⟨Nat.le_of_ble_eq_true rfl, Nat.le_of_ble_eq_true rfl⟩) hK hP hD hS hA 0 6 rfl rfl rfl hl.1 rfl (Nat.le_of_ble_eq_true rfl) dL_looks_19 ⟨Nat.le_of_ble_eq_true rfl, Nat.le_of_ble_eq_true rfl⟩ (fun u H locs hu hP hD hS => ?_)
        have hP : va_P D vwCl (List.flatten [clP cI cZ cS O k g a d w0 c f z V T n K G L v]) _ := hP
        have hD : va_D A (List.flatten [clP cI cZ cS O k g a d w0 c f z V T n K G L v]) := hD
        refine lv_eqi (y := cntS (V 0) 0 i) (cnt_z (by omega)) ?_
        refine lv_i2l (v := (cntS (V 0) 0 i).toInt64) hx hb dL_looks_22 rfl ?_
        refine lv_ladd hx hb dL_looks_23 ?_
        refine lv_lstore_n (lv' := [(1, .long ((31 * (hm (cntS (V 0) 0) i 127)) + ((cntS (V 0) 0 i).toInt64))), (0, .ref (O 0)), (3, .int (nI i))]) hx hb dL_looks_24 rfl hl (by decide) rfl (fun ls hl => ?_)
        refine lv_iinc (v := nI (i + 1)) (lv' := [(3, .int (nI (i + 1))), (1, .long ((31 * (hm (cntS (V 0) 0) i 127)) + ((cntS (V 0) 0 i).toInt64))), (0, .ref (O 0))]) hx hb dL_looks_25 hl (k := 2) rfl (nI_add _ _) (by decide) rfl (fun ls hl => ?_)
        refine lv_goto (tgt := 6) hx hb dL_looks_28 (by decide) ?_
        have hl : lv_has ls 4 [(3, .int (nI (i + 1))), (1, .long (hm (cntS (V 0) 0) (i + 1) 127)), (0, .ref (O 0))] := lv_reg hl 1 (x := .long ((31 * (hm (cntS (V 0) 0) i 127)) + ((cntS (V 0) 0 i).toInt64))) (y := .long (hm (cntS (V 0) 0) (i + 1) 127)) rfl (congrArg Value.long (hm_s _ _ _)) rfl
        exact ih (i + 1) (by omega) (by omega) _ _ _ hP hD hS (lv_sub hl [2, 1, 0] rfl)
  have hl : lv_has ls 4 [(3, .int 0), (1, .long (hm (cntS (V 0) 0) 0 127)), (0, .ref (O 0))] := lv_reg hl 1 (x := .long 127) (y := .long (hm (cntS (V 0) 0) 0 127)) rfl (congrArg Value.long (rfl)) rfl
  have hl : lv_has ls 4 [(3, .int (nI 0)), (1, .long (hm (cntS (V 0) 0) 0 127)), (0, .ref (O 0))] := lv_re hl 0 (x := 0) (y := nI 0) rfl (rfl) rfl
  exact lpA 15 0 (by omega) (by omega) _ _ _ hP hD hS (lv_sub hl [2, 1, 0] rfl)

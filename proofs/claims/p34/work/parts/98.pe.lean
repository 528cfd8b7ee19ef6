/-! what the law holds to be told ahead: a bag, a ribbon, an hour, a note, hours -/
theorem savZ_1 {z : Nat} (h : 0 < z) : 1 < savZ z := by unfold savZ; split <;> omega
theorem lks_h (S : Nat → Nat → Int32) : lks (hr1 S) = lks S := rfl
theorem pas_4 (S : Nat → Nat → Int32) : hrs S 1 12 2 = S 12 2 + sm (lks S) 8 := by rw [← lks_h]; rfl

set_option maxHeartbeats 4000000 in
set_option maxRecDepth 100000 in
theorem ah_1 {p : Program} {e : Env} {s : State} {m : MethodId} {args : Array Value} {below : List Frame} {meth : Method} {cd : Code} {Q : State → Prop} {A : Nat → Prop} (l : Launch) (D : va_G) (cI cZ cS cJ : ClassId) (X : CallFix p m cd cL_isAhead 17 s args wsL_isAhead RL) (hK : va_K D vwCl (tyL cI cZ cS cJ) s) (hA : ∀ q, s.heap.size ≤ q → A q) (O k g a d : Nat → Nat) (w0 : Int32) (c : Nat → Nat → Nat) (f : Nat → Option Nat) (z : Nat) (V : Nat → Nat → Nat → Int32) (T : Nat → Int32) (n : Nat) (K G : Nat → Nat → Int32) (L : Nat → Int32) (v : Int32) (S S7 : Nat → Nat → Int32) (hO : OK S) (hw : WI S S7 c f z V) (j r : Nat) (hj : j < 8) (hr : r < 7)  (kk : ∀ (c : Nat → Nat → Nat) (f : Nat → Option Nat) (z : Nat) (V : Nat → Nat → Nat → Int32) (K G : Nat → Nat → Int32) (L : Nat → Int32) (v : Int32) (_ : WI S S7 c f z V) (H : Heap) (locs : List Loc) (ls : Array Slot), va_P D vwCl (List.flatten [clP cI cZ cS O k g a d w0 c f z V T n K G L v]) H → va_D A (List.flatten [clP cI cZ cS O k g a d w0 c f z V T n K G L v]) → va_S A s.heap H locs → lv_has ls 17 [(6, .int 1), (5, .int (sm (S 6) 8)), (3, .long (lkS S)), (2, .int (nI r)), (1, .int (nI j)), (0, .ref (O 0))] → W p l e RM_isAhead s m args below meth cd H locs 0 0 Q (F0 m 83 ls [])) (H : Heap) (locs : List Loc) (ls : Array Slot) (hP : va_P D vwCl (List.flatten [clP cI cZ cS O k g a d w0 c f z V T n K G L v]) H) (hD : va_D A (List.flatten [clP cI cZ cS O k g a d w0 c f z V T n K G L v])) (hS : va_S A s.heap H locs) (hl : lv_has ls 17 [(6, .int 1), (5, .int (sm (S 6) 8)), (3, .long (lkS S)), (2, .int (nI r)), (1, .int (nI j)), (0, .ref (O 0))]) : W p l e RM_isAhead s m args below meth cd H locs 0 0 Q (F0 m 16 ls []) := by
  obtain ⟨hx, hb, hml, hown, hts⟩ := id X
  obtain ⟨hz, hf, hV0, hV7⟩ := id hw
  have hOV : OK (V 0) := by rw [hV0]; exact hO
  refine lv_aload_n hx hb dL_isAhead_16 rfl (lv_at hl 5 rfl) ?_
  refine lv_iload_n hx hb dL_isAhead_17 rfl (lv_at hl 4 rfl) ?_
  refine lv_iconst (v := 1) hx hb dL_isAhead_18 (by decide) ?_
  refine kcallVJ (U := Unit) (As := [.int (nI j), .int 1]) (rest := []) (Wr := []) (Wc := [clP cI cZ cS O k g a d w0 c f z V T n K G L v]) (Wo := fun u => [clP cI cZ cS O k g a d w0 c f z V T n K G L v]) X (k_balloon l D cI cZ cS cJ O k g a d w0 c f z V T n K G L v j 1 (by omega) (by omega)) (cwV 2 hts gL_isAhead_X6_balloon rfl rfl rfl (by decide +kernel) ⟨Nat.le_of_ble_eq_true rfl, Nat.le_of_ble_eq_true rfl⟩) hK hP hD hS hA 0 6 rfl rfl rfl hl.1 rfl (Nat.le_of_ble_eq_true rfl) dL_isAhead_19 ⟨Nat.le_of_ble_eq_true rfl, Nat.le_of_ble_eq_true rfl⟩ (fun u H locs hu hP hD hS => ?_)
  have hP : va_P D vwCl (List.flatten [clP cI cZ cS O k g a d w0 c f z V T n K G L v]) _ := hP
  have hD : va_D A (List.flatten [clP cI cZ cS O k g a d w0 c f z V T n K G L v]) := hD
  refine lv_eqi (y := S 1 j) (by rw [hV0] <;> rfl) ?_
  refine lv_if_le (tgt := 83) hx hb dL_isAhead_22 (by decide) (fun c22 => ?_) (fun c22 => ?_)
  · skip
    exact kk c f z V K G L v hw _ _ _ hP hD hS (lv_sub hl [0, 1, 2, 3, 4, 5] rfl)
  · skip
    obtain ⟨hb0, hb1, hb2⟩ := bag_1 hO hj c22
    refine lv_aload_n hx hb dL_isAhead_25 rfl (lv_at hl 5 rfl) ?_
    refine lv_iload_n hx hb dL_isAhead_26 rfl (lv_at hl 4 rfl) ?_
    refine lv_iconst (v := 0) hx hb dL_isAhead_27 (by decide) ?_
    refine kcallVJ (U := Unit) (As := [.int (nI j), .int 0]) (rest := []) (Wr := []) (Wc := [clP cI cZ cS O k g a d w0 c f z V T n K G L v]) (Wo := fun u => [clP cI cZ cS O k g a d w0 c f z V T n (drpK (V 0) K j) G L v]) X (k_ifDropped l D cI cZ cS cJ O k g a d w0 c f z V T n K G L v j 0 hOV (by omega) (by omega)) (cwV 2 hts gL_isAhead_X6_ifDropped rfl rfl rfl (by decide +kernel) ⟨Nat.le_of_ble_eq_true rfl, Nat.le_of_ble_eq_true rfl⟩) hK hP hD hS hA 0 6 rfl rfl rfl hl.1 rfl (Nat.le_of_ble_eq_true rfl) dL_isAhead_28 ⟨Nat.le_of_ble_eq_true rfl, Nat.le_of_ble_eq_true rfl⟩ (fun u H locs hu hP hD hS => ?_)
    have hP : va_P D vwCl (List.flatten [clP cI cZ cS O k g a d w0 c f z V T n (drpK (V 0) K j) G L v]) _ := hP
    have hD : va_D A (List.flatten [clP cI cZ cS O k g a d w0 c f z V T n (drpK (V 0) K j) G L v]) := hD
    refine lv_eqi (y := drpS S j 0) (by rw [hV0] <;> rfl) ?_
    refine lv_istore (lv' := [(7, .int (drpS S j 0)), (6, .int 1), (5, .int (sm (S 6) 8)), (3, .long (lkS S)), (2, .int (nI r)), (1, .int (nI j)), (0, .ref (O 0))]) hx hb dL_isAhead_31 hl (by decide) rfl (fun ls hl => ?_)
    refine lv_aload_n hx hb dL_isAhead_33 rfl (lv_at hl 6 rfl) ?_
    refine lv_iload_n hx hb dL_isAhead_34 rfl (lv_at hl 5 rfl) ?_
    refine lv_iconst (v := 1) hx hb dL_isAhead_35 (by decide) ?_
    refine kcallVJ (U := Unit) (As := [.int (nI j), .int 1]) (rest := []) (Wr := []) (Wc := [clP cI cZ cS O k g a d w0 c f z V T n (drpK (V 0) K j) G L v]) (Wo := fun u => [clP cI cZ cS O k g a d w0 c f z V T n (drpK (V 0) (drpK (V 0) K j) j) G L v]) X (k_ifDropped l D cI cZ cS cJ O k g a d w0 c f z V T n (drpK (V 0) K j) G L v j 1 hOV (by omega) (by omega)) (cwV 2 hts gL_isAhead_X6_ifDropped rfl rfl rfl (by decide +kernel) ⟨Nat.le_of_ble_eq_true rfl, Nat.le_of_ble_eq_true rfl⟩) hK hP hD hS hA 0 6 rfl rfl rfl hl.1 rfl (Nat.le_of_ble_eq_true rfl) dL_isAhead_36 ⟨Nat.le_of_ble_eq_true rfl, Nat.le_of_ble_eq_true rfl⟩ (fun u H locs hu hP hD hS => ?_)
    have hP : va_P D vwCl (List.flatten [clP cI cZ cS O k g a d w0 c f z V T n (drpK (V 0) (drpK (V 0) K j) j) G L v]) _ := hP
    have hD : va_D A (List.flatten [clP cI cZ cS O k g a d w0 c f z V T n (drpK (V 0) (drpK (V 0) K j) j) G L v]) := hD
    refine lv_eqi (y := drpS S j 1) (by rw [hV0] <;> rfl) ?_
    refine lv_istore (lv' := [(8, .int (drpS S j 1)), (7, .int (drpS S j 0)), (6, .int 1), (5, .int (sm (S 6) 8)), (3, .long (lkS S)), (2, .int (nI r)), (1, .int (nI j)), (0, .ref (O 0))]) hx hb dL_isAhead_39 hl (by decide) rfl (fun ls hl => ?_)
    refine lv_iload hx hb dL_isAhead_41 (lv_at hl 0 rfl) ?_
    refine lv_iload hx hb dL_isAhead_43 (lv_at hl 3 rfl) ?_
    refine lv_icmp_lt (tgt := 80) hx hb dL_isAhead_45 (by decide) (fun h => absurd h (dr_ge hO hj hb0)) (fun _ => ?_)
    refine lv_aload_n hx hb dL_isAhead_48 rfl (lv_at hl 7 rfl) ?_
    refine lv_iload_n hx hb dL_isAhead_49 rfl (lv_at hl 6 rfl) ?_
    refine kcallVJ (U := Unit) (As := [.int (nI j)]) (rest := []) (Wr := []) (Wc := [clP cI cZ cS O k g a d w0 c f z V T n (drpK (V 0) (drpK (V 0) K j) j) G L v]) (Wo := fun u => [clP cI cZ cS O k g a d w0 (cN c z) (fN f z) (savZ z) (vput (savV V z) (mended (droS (V 0) j))) T n (drpK (V 0) (drpK (V 0) K j) j) G L v]) X (k_drop l D cI cZ cS cJ O k g a d w0 c f z V T n (drpK (V 0) (drpK (V 0) K j) j) G L v j hz hf hOV (by omega) (by rw [hV0]; exact hb1)) (cwV 1 hts gL_isAhead_X6_drop rfl rfl rfl (by decide +kernel) ⟨Nat.le_of_ble_eq_true rfl, Nat.le_of_ble_eq_true rfl⟩) hK hP hD hS hA 0 6 rfl rfl rfl hl.1 rfl (Nat.le_of_ble_eq_true rfl) dL_isAhead_50 ⟨Nat.le_of_ble_eq_true rfl, Nat.le_of_ble_eq_true rfl⟩ (fun u H locs hu hP hD hS => ?_)
    have hP : va_P D vwCl (List.flatten [clP cI cZ cS O k g a d w0 (cN c z) (fN f z) (savZ z) (vput (savV V z) (mended (droS (V 0) j))) T n (drpK (V 0) (drpK (V 0) K j) j) G L v]) _ := hP
    have hD : va_D A (List.flatten [clP cI cZ cS O k g a d w0 (cN c z) (fN f z) (savZ z) (vput (savV V z) (mended (droS (V 0) j))) T n (drpK (V 0) (drpK (V 0) K j) j) G L v]) := hD
    refine lv_eqi (y := ht (droS S j) j) (by rw [hV0] <;> rfl) ?_
    generalize hE1 : mended (droS (V 0) j) = S1 at hP hD
    rw [hV0] at hE1
    have hw1 := WI_save (S' := S1) hw
    have ht1 := (sv_top (V := V) (z := z) (S := S1) hz).trans hV0
    have hp1 := savZ_0 z
    generalize vput (savV V z) S1 = V1 at hP hD hw1 ht1
    generalize cN c z = c1 at hP hD hw1
    generalize fN f z = f1 at hP hD hw1
    generalize savZ z = z1 at hP hD hw1 ht1 hp1
    obtain ⟨hz1, hf1, hV1, hV71⟩ := id hw1
    have hO1 : OK S1 := by rw [← hE1]; exact OK_dro hO hj hb1
    have hOV1 : OK (V1 0) := by rw [hV1]; exact hO1
    have hP : va_P D vwCl (List.flatten [clP cI cZ cS O k g a d w0 c1 f1 z1 V1 T n (drpK (V 0) (drpK (V 0) K j) j) G L v]) _ := hP
    have hD : va_D A (List.flatten [clP cI cZ cS O k g a d w0 c1 f1 z1 V1 T n (drpK (V 0) (drpK (V 0) K j) j) G L v]) := hD
    refine lv_iload hx hb dL_isAhead_53 (lv_at hl 1 rfl) ?_
    refine lv_icmp_ne (tgt := 80) hx hb dL_isAhead_55 (by decide) (fun h => absurd (dr_h hb0) h) (fun _ => ?_)
    refine lv_aload_n hx hb dL_isAhead_58 rfl (lv_at hl 7 rfl) ?_
    refine lv_bipush (v := 9) hx hb dL_isAhead_59 (by decide) ?_
    refine kcallVJ (U := Unit) (As := [.int 9]) (rest := []) (Wr := []) (Wc := [clP cI cZ cS O k g a d w0 c1 f1 z1 V1 T n (drpK (V 0) (drpK (V 0) K j) j) G L v]) (Wo := fun u => [clP cI cZ cS O k g a d w0 c1 f1 z1 V1 T n (drpK (V 0) (drpK (V 0) K j) j) G L v]) X (k_count l D cI cZ cS cJ O k g a d w0 c1 f1 z1 V1 T n (drpK (V 0) (drpK (V 0) K j) j) G L v 9 (by omega)) (cwV 1 hts gL_isAhead_X6_count rfl rfl rfl (by decide +kernel) ⟨Nat.le_of_ble_eq_true rfl, Nat.le_of_ble_eq_true rfl⟩) hK hP hD hS hA 0 6 rfl rfl rfl hl.1 rfl (Nat.le_of_ble_eq_true rfl) dL_isAhead_61 ⟨Nat.le_of_ble_eq_true rfl, Nat.le_of_ble_eq_true rfl⟩ (fun u H locs hu hP hD hS => ?_)
    have hP : va_P D vwCl (List.flatten [clP cI cZ cS O k g a d w0 c1 f1 z1 V1 T n (drpK (V 0) (drpK (V 0) K j) j) G L v]) _ := hP
    have hD : va_D A (List.flatten [clP cI cZ cS O k g a d w0 c1 f1 z1 V1 T n (drpK (V 0) (drpK (V 0) K j) j) G L v]) := hD
    refine lv_eqi (y := sm (S1 6) 8) (by rw [hV1] <;> rfl) ?_
    refine lv_iload hx hb dL_isAhead_64 (lv_at hl 0 rfl) ?_
    refine lv_icmp_ne (tgt := 80) hx hb dL_isAhead_66 (by decide) (fun h => absurd (by rw [← hE1]; exact dr_s hb0) h) (fun _ => ?_)
    refine lv_aload_n hx hb dL_isAhead_69 rfl (lv_at hl 7 rfl) ?_
    refine kcallVJ (U := Unit) (As := []) (rest := []) (Wr := []) (Wc := [clP cI cZ cS O k g a d w0 c1 f1 z1 V1 T n (drpK (V 0) (drpK (V 0) K j) j) G L v]) (Wo := fun u => [clP cI cZ cS O k g a d w0 c1 f1 (z1 - 1) (vput V1 (V1 z1)) T n (drpK (V 0) (drpK (V 0) K j) j) G L v]) X (k_undo l D cI cZ cS cJ O k g a d w0 c1 f1 z1 V1 T n (drpK (V 0) (drpK (V 0) K j) j) G L v hz1 hf1 hp1 (by rw [ht1]; exact hO)) (cwV 0 hts gL_isAhead_X6_undo rfl rfl rfl (by decide +kernel) ⟨Nat.le_of_ble_eq_true rfl, Nat.le_of_ble_eq_true rfl⟩) hK hP hD hS hA 0 6 rfl rfl rfl hl.1 rfl (Nat.le_of_ble_eq_true rfl) dL_isAhead_70 ⟨Nat.le_of_ble_eq_true rfl, Nat.le_of_ble_eq_true rfl⟩ (fun u H locs hu hP hD hS => ?_)
    have hP : va_P D vwCl (List.flatten [clP cI cZ cS O k g a d w0 c1 f1 (z1 - 1) (vput V1 (V1 z1)) T n (drpK (V 0) (drpK (V 0) K j) j) G L v]) _ := hP
    have hD : va_D A (List.flatten [clP cI cZ cS O k g a d w0 c1 f1 (z1 - 1) (vput V1 (V1 z1)) T n (drpK (V 0) (drpK (V 0) K j) j) G L v]) := hD
    refine lv_eqi (y := nI (z1 - 1)) (rfl) ?_
    refine lv_if_lt (tgt := 80) hx hb dL_isAhead_73 (by decide) (fun h => absurd h (nI_pos (by omega))) (fun _ => ?_)
    refine lv_iconst (v := 1) hx hb dL_isAhead_76 (by decide) ?_
    refine lv_goto (tgt := 81) hx hb dL_isAhead_77 (by decide) ?_
    refine lv_istore (lv' := [(6, .int 1), (8, .int (drpS S j 1)), (7, .int (drpS S j 0)), (5, .int (sm (S 6) 8)), (3, .long (lkS S)), (2, .int (nI r)), (1, .int (nI j)), (0, .ref (O 0))]) hx hb dL_isAhead_81 hl (by decide) rfl (fun ls hl => ?_)
    exact kk c1 f1 (z1 - 1) (vput V1 (V1 z1)) (drpK (V 0) (drpK (V 0) K j) j) G L v (WI_back hw1 hp1 ht1) _ _ _ hP hD hS (lv_sub hl [0, 3, 4, 5, 6, 7] rfl)

set_option maxHeartbeats 4000000 in
set_option maxRecDepth 100000 in
theorem ah_2 {p : Program} {e : Env} {s : State} {m : MethodId} {args : Array Value} {below : List Frame} {meth : Method} {cd : Code} {Q : State → Prop} {A : Nat → Prop} (l : Launch) (D : va_G) (cI cZ cS cJ : ClassId) (X : CallFix p m cd cL_isAhead 17 s args wsL_isAhead RL) (hK : va_K D vwCl (tyL cI cZ cS cJ) s) (hA : ∀ q, s.heap.size ≤ q → A q) (O k g a d : Nat → Nat) (w0 : Int32) (c : Nat → Nat → Nat) (f : Nat → Option Nat) (z : Nat) (V : Nat → Nat → Nat → Int32) (T : Nat → Int32) (n : Nat) (K G : Nat → Nat → Int32) (L : Nat → Int32) (v : Int32) (S S7 : Nat → Nat → Int32) (hO : OK S) (hw : WI S S7 c f z V) (j r : Nat) (hj : j < 8) (hr : r < 7)  (kk : ∀ (c : Nat → Nat → Nat) (f : Nat → Option Nat) (z : Nat) (V : Nat → Nat → Nat → Int32) (K G : Nat → Nat → Int32) (L : Nat → Int32) (v : Int32) (_ : WI S S7 c f z V) (H : Heap) (locs : List Loc) (ls : Array Slot), va_P D vwCl (List.flatten [clP cI cZ cS O k g a d w0 c f z V T n K G L v]) H → va_D A (List.flatten [clP cI cZ cS O k g a d w0 c f z V T n K G L v]) → va_S A s.heap H locs → lv_has ls 17 [(6, .int 1), (5, .int (sm (S 6) 8)), (3, .long (lkS S)), (2, .int (nI r)), (1, .int (nI j)), (0, .ref (O 0))] → W p l e RM_isAhead s m args below meth cd H locs 0 0 Q (F0 m 200 ls [])) (H : Heap) (locs : List Loc) (ls : Array Slot) (hP : va_P D vwCl (List.flatten [clP cI cZ cS O k g a d w0 c f z V T n K G L v]) H) (hD : va_D A (List.flatten [clP cI cZ cS O k g a d w0 c f z V T n K G L v])) (hS : va_S A s.heap H locs) (hl : lv_has ls 17 [(6, .int 1), (5, .int (sm (S 6) 8)), (3, .long (lkS S)), (2, .int (nI r)), (1, .int (nI j)), (0, .ref (O 0))]) : W p l e RM_isAhead s m args below meth cd H locs 0 0 Q (F0 m 83 ls []) := by
  obtain ⟨hx, hb, hml, hown, hts⟩ := id X
  obtain ⟨hz, hf, hV0, hV7⟩ := id hw
  have hOV : OK (V 0) := by rw [hV0]; exact hO
  refine lv_iload hx hb dL_isAhead_83 (lv_at hl 0 rfl) ?_
  refine lv_if_eq (tgt := 150) hx hb dL_isAhead_85 (by decide) (fun h => absurd h (by decide)) (fun _ => ?_)
  refine lv_aload_n hx hb dL_isAhead_88 rfl (lv_at hl 5 rfl) ?_
  refine lv_iload_n hx hb dL_isAhead_89 rfl (lv_at hl 3 rfl) ?_
  refine lv_iconst (v := 0) hx hb dL_isAhead_90 (by decide) ?_
  refine kcallVJ (U := Unit) (As := [.int (nI r), .int 0]) (rest := []) (Wr := []) (Wc := [clP cI cZ cS O k g a d w0 c f z V T n K G L v]) (Wo := fun u => [clP cI cZ cS O k g a d w0 c f z V T n K G L v]) X (k_ribbon l D cI cZ cS cJ O k g a d w0 c f z V T n K G L v r 0 (by omega) (by omega)) (cwV 2 hts gL_isAhead_X6_ribbon rfl rfl rfl (by decide +kernel) ⟨Nat.le_of_ble_eq_true rfl, Nat.le_of_ble_eq_true rfl⟩) hK hP hD hS hA 0 6 rfl rfl rfl hl.1 rfl (Nat.le_of_ble_eq_true rfl) dL_isAhead_91 ⟨Nat.le_of_ble_eq_true rfl, Nat.le_of_ble_eq_true rfl⟩ (fun u H locs hu hP hD hS => ?_)
  have hP : va_P D vwCl (List.flatten [clP cI cZ cS O k g a d w0 c f z V T n K G L v]) _ := hP
  have hD : va_D A (List.flatten [clP cI cZ cS O k g a d w0 c f z V T n K G L v]) := hD
  refine lv_eqi (y := b1 (¬ S 3 r = 0)) (by rw [hV0] <;> rfl) ?_
  refine lv_iconst (v := 1) hx hb dL_isAhead_94 (by decide) ?_
  refine lv_icmp_ne (tgt := 150) hx hb dL_isAhead_95 (by decide) (fun c95 => ?_) (fun c95 => ?_)
  · skip
    refine lv_iload hx hb dL_isAhead_150 (lv_at hl 0 rfl) ?_
    refine lv_if_eq (tgt := 200) hx hb dL_isAhead_152 (by decide) (fun h => absurd h (by decide)) (fun _ => ?_)
    refine lv_aload_n hx hb dL_isAhead_155 rfl (lv_at hl 5 rfl) ?_
    refine lv_iload_n hx hb dL_isAhead_156 rfl (lv_at hl 3 rfl) ?_
    refine lv_iconst (v := 4) hx hb dL_isAhead_157 (by decide) ?_
    refine kcallVJ (U := Unit) (As := [.int (nI r), .int 4]) (rest := []) (Wr := []) (Wc := [clP cI cZ cS O k g a d w0 c f z V T n K G L v]) (Wo := fun u => [clP cI cZ cS O k g a d w0 c f z V T n K G L v]) X (k_why l D cI cZ cS cJ O k g a d w0 c f z V T n K G L v r 4 (by omega) (fun _ => by omega) (by omega)) (cwV 2 hts gL_isAhead_X6_why rfl rfl rfl (by decide +kernel) ⟨Nat.le_of_ble_eq_true rfl, Nat.le_of_ble_eq_true rfl⟩) hK hP hD hS hA 0 6 rfl rfl rfl hl.1 rfl (Nat.le_of_ble_eq_true rfl) dL_isAhead_158 ⟨Nat.le_of_ble_eq_true rfl, Nat.le_of_ble_eq_true rfl⟩ (fun u H locs hu hP hD hS => ?_)
    have hP : va_P D vwCl (List.flatten [clP cI cZ cS O k g a d w0 c f z V T n K G L v]) _ := hP
    have hD : va_D A (List.flatten [clP cI cZ cS O k g a d w0 c f z V T n K G L v]) := hD
    refine lv_eqi (y := wnt S r 100) (by rw [hV0] <;> rfl) ?_
    refine lv_if_ne (tgt := 200) hx hb dL_isAhead_161 (by decide) (fun c161 => ?_) (fun c161 => ?_)
    · skip
      exact kk c f z V K G L v hw _ _ _ hP hD hS (lv_sub hl [0, 1, 2, 3, 4, 5] rfl)
    · skip
      refine lv_aload_n hx hb dL_isAhead_164 rfl (lv_at hl 5 rfl) ?_
      refine lv_iload_n hx hb dL_isAhead_165 rfl (lv_at hl 3 rfl) ?_
      refine lv_bipush (v := 100) hx hb dL_isAhead_166 (by decide) ?_
      refine kcallVJ (U := Unit) (As := [.int (nI r), .int 100]) (rest := []) (Wr := []) (Wc := [clP cI cZ cS O k g a d w0 c f z V T n K G L v]) (Wo := fun u => [clP cI cZ cS O k g a d w0 (cN c z) (fN f z) (savZ z) (vput (savV V z) (mended (tieS (V 0) r 100))) T n K G L v]) X (k_tie l D cI cZ cS cJ O k g a d w0 c f z V T n K G L v r 100 hz hf hOV (by omega) (by decide) (by decide) (by rw [hV0]; exact c161)) (cwV 2 hts gL_isAhead_X6_tie rfl rfl rfl (by decide +kernel) ⟨Nat.le_of_ble_eq_true rfl, Nat.le_of_ble_eq_true rfl⟩) hK hP hD hS hA 0 6 rfl rfl rfl hl.1 rfl (Nat.le_of_ble_eq_true rfl) dL_isAhead_168 ⟨Nat.le_of_ble_eq_true rfl, Nat.le_of_ble_eq_true rfl⟩ (fun u H locs hu hP hD hS => ?_)
      have hP : va_P D vwCl (List.flatten [clP cI cZ cS O k g a d w0 (cN c z) (fN f z) (savZ z) (vput (savV V z) (mended (tieS (V 0) r 100))) T n K G L v]) _ := hP
      have hD : va_D A (List.flatten [clP cI cZ cS O k g a d w0 (cN c z) (fN f z) (savZ z) (vput (savV V z) (mended (tieS (V 0) r 100))) T n K G L v]) := hD
      refine lv_eqi (y := nI (se (mended (tieS S r 100)) (7 - r) r - ss (mended (tieS S r 100)) r + 1)) (by rw [hV0] <;> rfl) ?_
      generalize hE1 : mended (tieS (V 0) r 100) = S1 at hP hD
      rw [hV0] at hE1
      have hw1 := WI_save (S' := S1) hw
      have ht1 := (sv_top (V := V) (z := z) (S := S1) hz).trans hV0
      have hp1 := savZ_0 z
      generalize vput (savV V z) S1 = V1 at hP hD hw1 ht1
      generalize cN c z = c1 at hP hD hw1
      generalize fN f z = f1 at hP hD hw1
      generalize savZ z = z1 at hP hD hw1 ht1 hp1
      obtain ⟨hz1, hf1, hV1, hV71⟩ := id hw1
      have hO1 : OK S1 := by rw [← hE1]; exact OK_tie hO (by decide)
      have hOV1 : OK (V1 0) := by rw [hV1]; exact hO1
      have hP : va_P D vwCl (List.flatten [clP cI cZ cS O k g a d w0 c1 f1 z1 V1 T n K G L v]) _ := hP
      have hD : va_D A (List.flatten [clP cI cZ cS O k g a d w0 c1 f1 z1 V1 T n K G L v]) := hD
      refine lv_iconst (v := 2) hx hb dL_isAhead_171 (by decide) ?_
      refine lv_icmp_lt (tgt := 197) hx hb dL_isAhead_172 (by decide) (fun h => absurd h (tye_n hr)) (fun _ => ?_)
      refine lv_aload_n hx hb dL_isAhead_175 rfl (lv_at hl 5 rfl) ?_
      refine lv_bipush (v := 9) hx hb dL_isAhead_176 (by decide) ?_
      refine kcallVJ (U := Unit) (As := [.int 9]) (rest := []) (Wr := []) (Wc := [clP cI cZ cS O k g a d w0 c1 f1 z1 V1 T n K G L v]) (Wo := fun u => [clP cI cZ cS O k g a d w0 c1 f1 z1 V1 T n K G L v]) X (k_count l D cI cZ cS cJ O k g a d w0 c1 f1 z1 V1 T n K G L v 9 (by omega)) (cwV 1 hts gL_isAhead_X6_count rfl rfl rfl (by decide +kernel) ⟨Nat.le_of_ble_eq_true rfl, Nat.le_of_ble_eq_true rfl⟩) hK hP hD hS hA 0 6 rfl rfl rfl hl.1 rfl (Nat.le_of_ble_eq_true rfl) dL_isAhead_178 ⟨Nat.le_of_ble_eq_true rfl, Nat.le_of_ble_eq_true rfl⟩ (fun u H locs hu hP hD hS => ?_)
      have hP : va_P D vwCl (List.flatten [clP cI cZ cS O k g a d w0 c1 f1 z1 V1 T n K G L v]) _ := hP
      have hD : va_D A (List.flatten [clP cI cZ cS O k g a d w0 c1 f1 z1 V1 T n K G L v]) := hD
      refine lv_eqi (y := sm (S1 6) 8) (by rw [hV1] <;> rfl) ?_
      refine lv_iload hx hb dL_isAhead_181 (lv_at hl 1 rfl) ?_
      refine lv_icmp_ne (tgt := 197) hx hb dL_isAhead_183 (by decide) (fun h => absurd (by rw [← hE1]; exact tye_s hO hr c161) h) (fun _ => ?_)
      refine lv_aload_n hx hb dL_isAhead_186 rfl (lv_at hl 5 rfl) ?_
      refine kcallVJ (U := Unit) (As := []) (rest := []) (Wr := []) (Wc := [clP cI cZ cS O k g a d w0 c1 f1 z1 V1 T n K G L v]) (Wo := fun u => [clP cI cZ cS O k g a d w0 c1 f1 (z1 - 1) (vput V1 (V1 z1)) T n K G L v]) X (k_undo l D cI cZ cS cJ O k g a d w0 c1 f1 z1 V1 T n K G L v hz1 hf1 hp1 (by rw [ht1]; exact hO)) (cwV 0 hts gL_isAhead_X6_undo rfl rfl rfl (by decide +kernel) ⟨Nat.le_of_ble_eq_true rfl, Nat.le_of_ble_eq_true rfl⟩) hK hP hD hS hA 0 6 rfl rfl rfl hl.1 rfl (Nat.le_of_ble_eq_true rfl) dL_isAhead_187 ⟨Nat.le_of_ble_eq_true rfl, Nat.le_of_ble_eq_true rfl⟩ (fun u H locs hu hP hD hS => ?_)
      have hP : va_P D vwCl (List.flatten [clP cI cZ cS O k g a d w0 c1 f1 (z1 - 1) (vput V1 (V1 z1)) T n K G L v]) _ := hP
      have hD : va_D A (List.flatten [clP cI cZ cS O k g a d w0 c1 f1 (z1 - 1) (vput V1 (V1 z1)) T n K G L v]) := hD
      refine lv_eqi (y := nI (z1 - 1)) (rfl) ?_
      refine lv_if_lt (tgt := 197) hx hb dL_isAhead_190 (by decide) (fun h => absurd h (nI_pos (by omega))) (fun _ => ?_)
      refine lv_iconst (v := 1) hx hb dL_isAhead_193 (by decide) ?_
      refine lv_goto (tgt := 198) hx hb dL_isAhead_194 (by decide) ?_
      refine lv_istore (lv' := [(6, .int 1), (5, .int (sm (S 6) 8)), (3, .long (lkS S)), (2, .int (nI r)), (1, .int (nI j)), (0, .ref (O 0))]) hx hb dL_isAhead_198 hl (by decide) rfl (fun ls hl => ?_)
      exact kk c1 f1 (z1 - 1) (vput V1 (V1 z1)) K G L v (WI_back hw1 hp1 ht1) _ _ _ hP hD hS (lv_sub hl [0, 1, 2, 3, 4, 5] rfl)
  · skip
    refine lv_aload_n hx hb dL_isAhead_98 rfl (lv_at hl 5 rfl) ?_
    refine lv_iload_n hx hb dL_isAhead_99 rfl (lv_at hl 3 rfl) ?_
    refine kcallVJ (U := Unit) (As := [.int (nI r)]) (rest := []) (Wr := []) (Wc := [clP cI cZ cS O k g a d w0 c f z V T n K G L v]) (Wo := fun u => [clP cI cZ cS O k g a d w0 (cN c z) (fN f z) (savZ z) (vput (savV V z) (mended (cutS (V 0) r))) T n K G L v]) X (k_cut l D cI cZ cS cJ O k g a d w0 c f z V T n K G L v r hz hf hOV (by omega) (by rw [hV0]; exact wn5_0.mpr (b1_e c95))) (cwV 1 hts gL_isAhead_X6_cut rfl rfl rfl (by decide +kernel) ⟨Nat.le_of_ble_eq_true rfl, Nat.le_of_ble_eq_true rfl⟩) hK hP hD hS hA 0 6 rfl rfl rfl hl.1 rfl (Nat.le_of_ble_eq_true rfl) dL_isAhead_100 ⟨Nat.le_of_ble_eq_true rfl, Nat.le_of_ble_eq_true rfl⟩ (fun u H locs hu hP hD hS => ?_)
    have hP : va_P D vwCl (List.flatten [clP cI cZ cS O k g a d w0 (cN c z) (fN f z) (savZ z) (vput (savV V z) (mended (cutS (V 0) r))) T n K G L v]) _ := hP
    have hD : va_D A (List.flatten [clP cI cZ cS O k g a d w0 (cN c z) (fN f z) (savZ z) (vput (savV V z) (mended (cutS (V 0) r))) T n K G L v]) := hD
    refine lv_eqi (y := sm (ht (cutS S r)) 8 - sm (S 6) 8) (by rw [hV0] <;> rfl) ?_
    generalize hE1 : mended (cutS (V 0) r) = S1 at hP hD
    rw [hV0] at hE1
    have hw1 := WI_save (S' := S1) hw
    have ht1 := (sv_top (V := V) (z := z) (S := S1) hz).trans hV0
    have hp1 := savZ_0 z
    generalize vput (savV V z) S1 = V1 at hP hD hw1 ht1
    generalize cN c z = c1 at hP hD hw1
    generalize fN f z = f1 at hP hD hw1
    generalize savZ z = z1 at hP hD hw1 ht1 hp1
    obtain ⟨hz1, hf1, hV1, hV71⟩ := id hw1
    have hO1 : OK S1 := by rw [← hE1]; exact OK_cut hO
    have hOV1 : OK (V1 0) := by rw [hV1]; exact hO1
    have hP : va_P D vwCl (List.flatten [clP cI cZ cS O k g a d w0 c1 f1 z1 V1 T n K G L v]) _ := hP
    have hD : va_D A (List.flatten [clP cI cZ cS O k g a d w0 c1 f1 z1 V1 T n K G L v]) := hD
    refine lv_istore (lv' := [(7, .int (sm (ht (cutS S r)) 8 - sm (S 6) 8)), (6, .int 1), (5, .int (sm (S 6) 8)), (3, .long (lkS S)), (2, .int (nI r)), (1, .int (nI j)), (0, .ref (O 0))]) hx hb dL_isAhead_103 hl (by decide) rfl (fun ls hl => ?_)
    refine lv_iload hx hb dL_isAhead_105 (lv_at hl 0 rfl) ?_
    refine lv_if_lt (tgt := 144) hx hb dL_isAhead_107 (by decide) (fun h => absurd h (cut_ge hO r)) (fun _ => ?_)
    refine lv_aload_n hx hb dL_isAhead_110 rfl (lv_at hl 6 rfl) ?_
    refine lv_bipush (v := 9) hx hb dL_isAhead_111 (by decide) ?_
    refine kcallVJ (U := Unit) (As := [.int 9]) (rest := []) (Wr := []) (Wc := [clP cI cZ cS O k g a d w0 c1 f1 z1 V1 T n K G L v]) (Wo := fun u => [clP cI cZ cS O k g a d w0 c1 f1 z1 V1 T n K G L v]) X (k_count l D cI cZ cS cJ O k g a d w0 c1 f1 z1 V1 T n K G L v 9 (by omega)) (cwV 1 hts gL_isAhead_X6_count rfl rfl rfl (by decide +kernel) ⟨Nat.le_of_ble_eq_true rfl, Nat.le_of_ble_eq_true rfl⟩) hK hP hD hS hA 0 6 rfl rfl rfl hl.1 rfl (Nat.le_of_ble_eq_true rfl) dL_isAhead_113 ⟨Nat.le_of_ble_eq_true rfl, Nat.le_of_ble_eq_true rfl⟩ (fun u H locs hu hP hD hS => ?_)
    have hP : va_P D vwCl (List.flatten [clP cI cZ cS O k g a d w0 c1 f1 z1 V1 T n K G L v]) _ := hP
    have hD : va_D A (List.flatten [clP cI cZ cS O k g a d w0 c1 f1 z1 V1 T n K G L v]) := hD
    refine lv_eqi (y := sm (S1 6) 8) (by rw [hV1] <;> rfl) ?_
    refine lv_iload hx hb dL_isAhead_116 (lv_at hl 2 rfl) ?_
    refine lv_iload hx hb dL_isAhead_118 (lv_at hl 0 rfl) ?_
    refine lv_iadd hx hb dL_isAhead_120 ?_
    refine lv_icmp_ne (tgt := 144) hx hb dL_isAhead_121 (by decide) (fun h => absurd (by rw [← hE1]; exact cut_s r) h) (fun _ => ?_)
    refine lv_aload_n hx hb dL_isAhead_124 rfl (lv_at hl 6 rfl) ?_
    refine lv_iload_n hx hb dL_isAhead_125 rfl (lv_at hl 4 rfl) ?_
    refine lv_iconst (v := 0) hx hb dL_isAhead_126 (by decide) ?_
    refine kcallVJ (U := Unit) (As := [.int (nI r), .int 0]) (rest := []) (Wr := []) (Wc := [clP cI cZ cS O k g a d w0 c1 f1 z1 V1 T n K G L v]) (Wo := fun u => [clP cI cZ cS O k g a d w0 c1 f1 z1 V1 T n K G L v]) X (k_ribbon l D cI cZ cS cJ O k g a d w0 c1 f1 z1 V1 T n K G L v r 0 (by omega) (by omega)) (cwV 2 hts gL_isAhead_X6_ribbon rfl rfl rfl (by decide +kernel) ⟨Nat.le_of_ble_eq_true rfl, Nat.le_of_ble_eq_true rfl⟩) hK hP hD hS hA 0 6 rfl rfl rfl hl.1 rfl (Nat.le_of_ble_eq_true rfl) dL_isAhead_127 ⟨Nat.le_of_ble_eq_true rfl, Nat.le_of_ble_eq_true rfl⟩ (fun u H locs hu hP hD hS => ?_)
    have hP : va_P D vwCl (List.flatten [clP cI cZ cS O k g a d w0 c1 f1 z1 V1 T n K G L v]) _ := hP
    have hD : va_D A (List.flatten [clP cI cZ cS O k g a d w0 c1 f1 z1 V1 T n K G L v]) := hD
    refine lv_eqi (y := b1 (¬ S1 3 r = 0)) (by rw [hV1] <;> rfl) ?_
    refine lv_if_ne (tgt := 144) hx hb dL_isAhead_130 (by decide) (fun h => absurd (by rw [← hE1]; exact cut_0 r) h) (fun _ => ?_)
    refine lv_aload_n hx hb dL_isAhead_133 rfl (lv_at hl 6 rfl) ?_
    refine kcallVJ (U := Unit) (As := []) (rest := []) (Wr := []) (Wc := [clP cI cZ cS O k g a d w0 c1 f1 z1 V1 T n K G L v]) (Wo := fun u => [clP cI cZ cS O k g a d w0 c1 f1 (z1 - 1) (vput V1 (V1 z1)) T n K G L v]) X (k_undo l D cI cZ cS cJ O k g a d w0 c1 f1 z1 V1 T n K G L v hz1 hf1 hp1 (by rw [ht1]; exact hO)) (cwV 0 hts gL_isAhead_X6_undo rfl rfl rfl (by decide +kernel) ⟨Nat.le_of_ble_eq_true rfl, Nat.le_of_ble_eq_true rfl⟩) hK hP hD hS hA 0 6 rfl rfl rfl hl.1 rfl (Nat.le_of_ble_eq_true rfl) dL_isAhead_134 ⟨Nat.le_of_ble_eq_true rfl, Nat.le_of_ble_eq_true rfl⟩ (fun u H locs hu hP hD hS => ?_)
    have hP : va_P D vwCl (List.flatten [clP cI cZ cS O k g a d w0 c1 f1 (z1 - 1) (vput V1 (V1 z1)) T n K G L v]) _ := hP
    have hD : va_D A (List.flatten [clP cI cZ cS O k g a d w0 c1 f1 (z1 - 1) (vput V1 (V1 z1)) T n K G L v]) := hD
    refine lv_eqi (y := nI (z1 - 1)) (rfl) ?_
    refine lv_if_lt (tgt := 144) hx hb dL_isAhead_137 (by decide) (fun h => absurd h (nI_pos (by omega))) (fun _ => ?_)
    refine lv_iconst (v := 1) hx hb dL_isAhead_140 (by decide) ?_
    refine lv_goto (tgt := 145) hx hb dL_isAhead_141 (by decide) ?_
    refine lv_istore (lv' := [(6, .int 1), (7, .int (sm (ht (cutS S r)) 8 - sm (S 6) 8)), (5, .int (sm (S 6) 8)), (3, .long (lkS S)), (2, .int (nI r)), (1, .int (nI j)), (0, .ref (O 0))]) hx hb dL_isAhead_145 hl (by decide) rfl (fun ls hl => ?_)
    refine lv_goto (tgt := 200) hx hb dL_isAhead_147 (by decide) ?_
    exact kk c1 f1 (z1 - 1) (vput V1 (V1 z1)) K G L v (WI_back hw1 hp1 ht1) _ _ _ hP hD hS (lv_sub hl [0, 2, 3, 4, 5, 6] rfl)

set_option maxHeartbeats 4000000 in
set_option maxRecDepth 100000 in
theorem ah_d {p : Program} {e : Env} {s : State} {m : MethodId} {args : Array Value} {below : List Frame} {meth : Method} {cd : Code} {Q : State → Prop} {A : Nat → Prop} (l : Launch) (D : va_G) (cI cZ cS cJ : ClassId) (X : CallFix p m cd cL_isAhead 17 s args wsL_isAhead RL) (hK : va_K D vwCl (tyL cI cZ cS cJ) s) (hA : ∀ q, s.heap.size ≤ q → A q) (O k g a d : Nat → Nat) (w0 : Int32) (c : Nat → Nat → Nat) (f : Nat → Option Nat) (z : Nat) (V : Nat → Nat → Nat → Int32) (T : Nat → Int32) (n : Nat) (K G : Nat → Nat → Int32) (L : Nat → Int32) (v : Int32) (S S7 : Nat → Nat → Int32) (hO : OK S) (hw : WI S S7 c f z V) (j r : Nat) (v9 : Int32) (kk : ∀ (H : Heap) (locs : List Loc) (ls : Array Slot), va_P D vwCl (List.flatten [clP cI cZ cS O k g a d w0 c f z V T n K G L v]) H → va_D A (List.flatten [clP cI cZ cS O k g a d w0 c f z V T n K G L v]) → va_S A s.heap H locs → lv_has ls 17 [(13, .int (nI 8)), (7, .int (sm (lks S) 8)), (12, .int v9), (11, .int (S 12 4)), (10, .int (sm (fun j => b1 (¬ S 3 j = 0)) 7)), (9, .int (S 12 0)), (8, .int (S 12 2)), (6, .int 1), (5, .int (sm (S 6) 8)), (3, .long (lkS S)), (2, .int (nI r)), (1, .int (nI j)), (0, .ref (O 0))] → W p l e RM_isAhead s m args below meth cd H locs 0 0 Q (F0 m 294 ls [])) : ∀ (nn i : Nat), i ≤ 8 → 8 - i < nn → ∀ (H : Heap) (locs : List Loc) (ls : Array Slot), va_P D vwCl (List.flatten [clP cI cZ cS O k g a d w0 c f z V T n K G L v]) H → va_D A (List.flatten [clP cI cZ cS O k g a d w0 c f z V T n K G L v]) → va_S A s.heap H locs → lv_has ls 17 [(13, .int (nI i)), (7, .int (sm (lks S) i)), (12, .int v9), (11, .int (S 12 4)), (10, .int (sm (fun j => b1 (¬ S 3 j = 0)) 7)), (9, .int (S 12 0)), (8, .int (S 12 2)), (6, .int 1), (5, .int (sm (S 6) 8)), (3, .long (lkS S)), (2, .int (nI r)), (1, .int (nI j)), (0, .ref (O 0))] → W p l e RM_isAhead s m args below meth cd H locs 0 0 Q (F0 m 242 ls []) := by
  obtain ⟨hx, hb, hml, hown, hts⟩ := id X
  obtain ⟨hz, hf, hV0, hV7⟩ := id hw
  have hOV : OK (V 0) := by rw [hV0]; exact hO
  intro nn
  induction nn with
  | zero => intro i hi hms; exact absurd hms (Nat.not_lt_zero _)
  | succ nn ih =>
    intro i hi hms H locs ls hP hD hS hl
    refine lv_iload hx hb dL_isAhead_242 (lv_at hl 0 rfl) ?_
    refine lv_bipush (v := 8) hx hb dL_isAhead_244 (by decide) ?_
    refine n_ge (i := i) (j := 8) (tgt := 294) hx hb (by omega) (by omega) dL_isAhead_246 (by decide) (fun c246 => ?_) (fun c246 => ?_)
    · skip
      obtain rfl : i = 8 := by omega
      exact kk _ _ _ hP hD hS (lv_sub hl [0, 1, 2, 3, 4, 5, 6, 7, 8, 9, 10, 11, 12] rfl)
    · skip
      refine lv_iload hx hb dL_isAhead_249 (lv_at hl 1 rfl) ?_
      refine lv_aload_n hx hb dL_isAhead_251 rfl (lv_at hl 12 rfl) ?_
      refine lv_iload hx hb dL_isAhead_252 (lv_at hl 0 rfl) ?_
      refine lv_iconst (v := 0) hx hb dL_isAhead_254 (by decide) ?_
      refine kcallVJ (U := Unit) (As := [.int (nI i), .int 0]) (rest := [.int (sm (lks S) i)]) (Wr := []) (Wc := [clP cI cZ cS O k g a d w0 c f z V T n K G L v]) (Wo := fun u => [clP cI cZ cS O k g a d w0 c f z V T n K G L v]) X (k_balloon l D cI cZ cS cJ O k g a d w0 c f z V T n K G L v i 0 (by omega) (by omega)) (cwV 2 hts gL_isAhead_X6_balloon rfl rfl rfl (by decide +kernel) ⟨Nat.le_of_ble_eq_true rfl, Nat.le_of_ble_eq_true rfl⟩) hK hP hD hS hA 0 6 rfl rfl rfl hl.1 rfl (Nat.le_of_ble_eq_true rfl) dL_isAhead_255 ⟨Nat.le_of_ble_eq_true rfl, Nat.le_of_ble_eq_true rfl⟩ (fun u H locs hu hP hD hS => ?_)
      have hP : va_P D vwCl (List.flatten [clP cI cZ cS O k g a d w0 c f z V T n K G L v]) _ := hP
      have hD : va_D A (List.flatten [clP cI cZ cS O k g a d w0 c f z V T n K G L v]) := hD
      refine lv_eqi (y := S 0 i) (by rw [hV0] <;> rfl) ?_
      refine lv_aload_n hx hb dL_isAhead_258 rfl (lv_at hl 12 rfl) ?_
      refine lv_iload hx hb dL_isAhead_259 (lv_at hl 0 rfl) ?_
      refine lv_iconst (v := 2) hx hb dL_isAhead_261 (by decide) ?_
      refine kcallVJ (U := Unit) (As := [.int (nI i), .int 2]) (rest := [.int (S 0 i), .int (sm (lks S) i)]) (Wr := []) (Wc := [clP cI cZ cS O k g a d w0 c f z V T n K G L v]) (Wo := fun u => [clP cI cZ cS O k g a d w0 c f z V T n K G L v]) X (k_balloon l D cI cZ cS cJ O k g a d w0 c f z V T n K G L v i 2 (by omega) (by omega)) (cwV 2 hts gL_isAhead_X6_balloon rfl rfl rfl (by decide +kernel) ⟨Nat.le_of_ble_eq_true rfl, Nat.le_of_ble_eq_true rfl⟩) hK hP hD hS hA 0 6 rfl rfl rfl hl.1 rfl (Nat.le_of_ble_eq_true rfl) dL_isAhead_262 ⟨Nat.le_of_ble_eq_true rfl, Nat.le_of_ble_eq_true rfl⟩ (fun u H locs hu hP hD hS => ?_)
      have hP : va_P D vwCl (List.flatten [clP cI cZ cS O k g a d w0 c f z V T n K G L v]) _ := hP
      have hD : va_D A (List.flatten [clP cI cZ cS O k g a d w0 c f z V T n K G L v]) := hD
      refine lv_eqi (y := S 2 i) (by rw [hV0] <;> rfl) ?_
      have jn265 : ∀ (H : Heap) (locs : List Loc), va_P D vwCl (List.flatten [clP cI cZ cS O k g a d w0 c f z V T n K G L v]) H → va_D A (List.flatten [clP cI cZ cS O k g a d w0 c f z V T n K G L v]) → va_S A s.heap H locs → W p l e RM_isAhead s m args below meth cd H locs 0 0 Q (F0 m 285 ls [.int (lks S i), .int (sm (lks S) i)]) := by
        intro H locs hP hD hS
        refine lv_iadd hx hb dL_isAhead_285 ?_
        refine lv_eqi (y := sm (lks S) (i + 1)) (rfl) ?_
        refine lv_istore (lv' := [(7, .int (sm (lks S) (i + 1))), (13, .int (nI i)), (12, .int v9), (11, .int (S 12 4)), (10, .int (sm (fun j => b1 (¬ S 3 j = 0)) 7)), (9, .int (S 12 0)), (8, .int (S 12 2)), (6, .int 1), (5, .int (sm (S 6) 8)), (3, .long (lkS S)), (2, .int (nI r)), (1, .int (nI j)), (0, .ref (O 0))]) hx hb dL_isAhead_286 hl (by decide) rfl (fun ls hl => ?_)
        refine lv_iinc (v := nI (i + 1)) (lv' := [(13, .int (nI (i + 1))), (7, .int (sm (lks S) (i + 1))), (12, .int v9), (11, .int (S 12 4)), (10, .int (sm (fun j => b1 (¬ S 3 j = 0)) 7)), (9, .int (S 12 0)), (8, .int (S 12 2)), (6, .int 1), (5, .int (sm (S 6) 8)), (3, .long (lkS S)), (2, .int (nI r)), (1, .int (nI j)), (0, .ref (O 0))]) hx hb dL_isAhead_288 hl (k := 1) rfl (nI_add _ _) (by decide) rfl (fun ls hl => ?_)
        refine lv_goto (tgt := 242) hx hb dL_isAhead_291 (by decide) ?_
        exact ih (i + 1) (by omega) (by omega) _ _ _ hP hD hS (lv_sub hl [0, 1, 2, 3, 4, 5, 6, 7, 8, 9, 10, 11, 12] rfl)
      refine lv_icmp_ge (tgt := 278) hx hb dL_isAhead_265 (by decide) (fun c265 => ?_) (fun c265 => ?_)
      · skip
        refine lv_aload_n hx hb dL_isAhead_278 rfl (lv_at hl 12 rfl) ?_
        refine lv_iload hx hb dL_isAhead_279 (lv_at hl 0 rfl) ?_
        refine lv_iconst (v := 2) hx hb dL_isAhead_281 (by decide) ?_
        refine kcallVJ (U := Unit) (As := [.int (nI i), .int 2]) (rest := [.int (sm (lks S) i)]) (Wr := []) (Wc := [clP cI cZ cS O k g a d w0 c f z V T n K G L v]) (Wo := fun u => [clP cI cZ cS O k g a d w0 c f z V T n K G L v]) X (k_balloon l D cI cZ cS cJ O k g a d w0 c f z V T n K G L v i 2 (by omega) (by omega)) (cwV 2 hts gL_isAhead_X6_balloon rfl rfl rfl (by decide +kernel) ⟨Nat.le_of_ble_eq_true rfl, Nat.le_of_ble_eq_true rfl⟩) hK hP hD hS hA 0 6 rfl rfl rfl hl.1 rfl (Nat.le_of_ble_eq_true rfl) dL_isAhead_282 ⟨Nat.le_of_ble_eq_true rfl, Nat.le_of_ble_eq_true rfl⟩ (fun u H locs hu hP hD hS => ?_)
        have hP : va_P D vwCl (List.flatten [clP cI cZ cS O k g a d w0 c f z V T n K G L v]) _ := hP
        have hD : va_D A (List.flatten [clP cI cZ cS O k g a d w0 c f z V T n K G L v]) := hD
        refine lv_eqi (y := S 2 i) (by rw [hV0] <;> rfl) ?_
        refine lv_eqi (y := lks S i) (due_1 i c265) ?_
        exact jn265 _ _ hP hD hS
      · skip
        refine lv_aload_n hx hb dL_isAhead_268 rfl (lv_at hl 12 rfl) ?_
        refine lv_iload hx hb dL_isAhead_269 (lv_at hl 0 rfl) ?_
        refine lv_iconst (v := 0) hx hb dL_isAhead_271 (by decide) ?_
        refine kcallVJ (U := Unit) (As := [.int (nI i), .int 0]) (rest := [.int (sm (lks S) i)]) (Wr := []) (Wc := [clP cI cZ cS O k g a d w0 c f z V T n K G L v]) (Wo := fun u => [clP cI cZ cS O k g a d w0 c f z V T n K G L v]) X (k_balloon l D cI cZ cS cJ O k g a d w0 c f z V T n K G L v i 0 (by omega) (by omega)) (cwV 2 hts gL_isAhead_X6_balloon rfl rfl rfl (by decide +kernel) ⟨Nat.le_of_ble_eq_true rfl, Nat.le_of_ble_eq_true rfl⟩) hK hP hD hS hA 0 6 rfl rfl rfl hl.1 rfl (Nat.le_of_ble_eq_true rfl) dL_isAhead_272 ⟨Nat.le_of_ble_eq_true rfl, Nat.le_of_ble_eq_true rfl⟩ (fun u H locs hu hP hD hS => ?_)
        have hP : va_P D vwCl (List.flatten [clP cI cZ cS O k g a d w0 c f z V T n K G L v]) _ := hP
        have hD : va_D A (List.flatten [clP cI cZ cS O k g a d w0 c f z V T n K G L v]) := hD
        refine lv_eqi (y := S 0 i) (by rw [hV0] <;> rfl) ?_
        refine lv_goto (tgt := 285) hx hb dL_isAhead_275 (by decide) ?_
        refine lv_eqi (y := lks S i) (due_2 i c265) ?_
        exact jn265 _ _ hP hD hS

set_option maxHeartbeats 4000000 in
set_option maxRecDepth 100000 in
theorem ah_3 {p : Program} {e : Env} {s : State} {m : MethodId} {args : Array Value} {below : List Frame} {meth : Method} {cd : Code} {Q : State → Prop} {A : Nat → Prop} (l : Launch) (D : va_G) (cI cZ cS cJ : ClassId) (X : CallFix p m cd cL_isAhead 17 s args wsL_isAhead RL) (hK : va_K D vwCl (tyL cI cZ cS cJ) s) (hA : ∀ q, s.heap.size ≤ q → A q) (O k g a d : Nat → Nat) (w0 : Int32) (c : Nat → Nat → Nat) (f : Nat → Option Nat) (z : Nat) (V : Nat → Nat → Nat → Int32) (T : Nat → Int32) (n : Nat) (K G : Nat → Nat → Int32) (L : Nat → Int32) (v : Int32) (S S7 : Nat → Nat → Int32) (hO : OK S) (hw : WI S S7 c f z V) (j r : Nat) (hj : j < 8) (hr : r < 7)  (kk : ∀ (c : Nat → Nat → Nat) (f : Nat → Option Nat) (z : Nat) (V : Nat → Nat → Nat → Int32) (K G : Nat → Nat → Int32) (L : Nat → Int32) (v : Int32) (v9 : Int32) (_ : WI S S7 c f z V) (_ : Fst S 200 = v9) (H : Heap) (locs : List Loc) (ls : Array Slot), va_P D vwCl (List.flatten [clP cI cZ cS O k g a d w0 c f z V T n K G L v]) H → va_D A (List.flatten [clP cI cZ cS O k g a d w0 c f z V T n K G L v]) → va_S A s.heap H locs → lv_has ls 17 [(7, .int (sm (lks S) 8)), (12, .int v9), (11, .int (S 12 4)), (10, .int (sm (fun j => b1 (¬ S 3 j = 0)) 7)), (9, .int (S 12 0)), (8, .int (S 12 2)), (6, .int 1), (5, .int (sm (S 6) 8)), (3, .long (lkS S)), (2, .int (nI r)), (1, .int (nI j)), (0, .ref (O 0))] → W p l e RM_isAhead s m args below meth cd H locs 0 0 Q (F0 m 294 ls [])) (H : Heap) (locs : List Loc) (ls : Array Slot) (hP : va_P D vwCl (List.flatten [clP cI cZ cS O k g a d w0 c f z V T n K G L v]) H) (hD : va_D A (List.flatten [clP cI cZ cS O k g a d w0 c f z V T n K G L v])) (hS : va_S A s.heap H locs) (hl : lv_has ls 17 [(6, .int 1), (5, .int (sm (S 6) 8)), (3, .long (lkS S)), (2, .int (nI r)), (1, .int (nI j)), (0, .ref (O 0))]) : W p l e RM_isAhead s m args below meth cd H locs 0 0 Q (F0 m 200 ls []) := by
  obtain ⟨hx, hb, hml, hown, hts⟩ := id X
  obtain ⟨hz, hf, hV0, hV7⟩ := id hw
  have hOV : OK (V 0) := by rw [hV0]; exact hO
  obtain ⟨v9, hv9⟩ : ∃ x, Fst S 200 = x := ⟨_, rfl⟩
  refine lv_iconst (v := 0) hx hb dL_isAhead_200 (by decide) ?_
  refine lv_istore (lv' := [(7, .int 0), (6, .int 1), (5, .int (sm (S 6) 8)), (3, .long (lkS S)), (2, .int (nI r)), (1, .int (nI j)), (0, .ref (O 0))]) hx hb dL_isAhead_201 hl (by decide) rfl (fun ls hl => ?_)
  refine lv_aload_n hx hb dL_isAhead_203 rfl (lv_at hl 6 rfl) ?_
  refine lv_iconst (v := 4) hx hb dL_isAhead_204 (by decide) ?_
  refine kcallVJ (U := Unit) (As := [.int 4]) (rest := []) (Wr := []) (Wc := [clP cI cZ cS O k g a d w0 c f z V T n K G L v]) (Wo := fun u => [clP cI cZ cS O k g a d w0 c f z V T n K G L v]) X (k_count l D cI cZ cS cJ O k g a d w0 c f z V T n K G L v 4 (by omega)) (cwV 1 hts gL_isAhead_X6_count rfl rfl rfl (by decide +kernel) ⟨Nat.le_of_ble_eq_true rfl, Nat.le_of_ble_eq_true rfl⟩) hK hP hD hS hA 0 6 rfl rfl rfl hl.1 rfl (Nat.le_of_ble_eq_true rfl) dL_isAhead_205 ⟨Nat.le_of_ble_eq_true rfl, Nat.le_of_ble_eq_true rfl⟩ (fun u H locs hu hP hD hS => ?_)
  have hP : va_P D vwCl (List.flatten [clP cI cZ cS O k g a d w0 c f z V T n K G L v]) _ := hP
  have hD : va_D A (List.flatten [clP cI cZ cS O k g a d w0 c f z V T n K G L v]) := hD
  refine lv_eqi (y := S 12 2) (by rw [hV0] <;> rfl) ?_
  refine lv_istore (lv' := [(8, .int (S 12 2)), (7, .int 0), (6, .int 1), (5, .int (sm (S 6) 8)), (3, .long (lkS S)), (2, .int (nI r)), (1, .int (nI j)), (0, .ref (O 0))]) hx hb dL_isAhead_208 hl (by decide) rfl (fun ls hl => ?_)
  refine lv_aload_n hx hb dL_isAhead_210 rfl (lv_at hl 7 rfl) ?_
  refine lv_iconst (v := 0) hx hb dL_isAhead_211 (by decide) ?_
  refine kcallVJ (U := Unit) (As := [.int 0]) (rest := []) (Wr := []) (Wc := [clP cI cZ cS O k g a d w0 c f z V T n K G L v]) (Wo := fun u => [clP cI cZ cS O k g a d w0 c f z V T n K G L v]) X (k_count l D cI cZ cS cJ O k g a d w0 c f z V T n K G L v 0 (by omega)) (cwV 1 hts gL_isAhead_X6_count rfl rfl rfl (by decide +kernel) ⟨Nat.le_of_ble_eq_true rfl, Nat.le_of_ble_eq_true rfl⟩) hK hP hD hS hA 0 6 rfl rfl rfl hl.1 rfl (Nat.le_of_ble_eq_true rfl) dL_isAhead_212 ⟨Nat.le_of_ble_eq_true rfl, Nat.le_of_ble_eq_true rfl⟩ (fun u H locs hu hP hD hS => ?_)
  have hP : va_P D vwCl (List.flatten [clP cI cZ cS O k g a d w0 c f z V T n K G L v]) _ := hP
  have hD : va_D A (List.flatten [clP cI cZ cS O k g a d w0 c f z V T n K G L v]) := hD
  refine lv_eqi (y := S 12 0) (by rw [hV0] <;> rfl) ?_
  refine lv_istore (lv' := [(9, .int (S 12 0)), (8, .int (S 12 2)), (7, .int 0), (6, .int 1), (5, .int (sm (S 6) 8)), (3, .long (lkS S)), (2, .int (nI r)), (1, .int (nI j)), (0, .ref (O 0))]) hx hb dL_isAhead_215 hl (by decide) rfl (fun ls hl => ?_)
  refine lv_aload_n hx hb dL_isAhead_217 rfl (lv_at hl 8 rfl) ?_
  refine lv_bipush (v := 6) hx hb dL_isAhead_218 (by decide) ?_
  refine kcallVJ (U := Unit) (As := [.int 6]) (rest := []) (Wr := []) (Wc := [clP cI cZ cS O k g a d w0 c f z V T n K G L v]) (Wo := fun u => [clP cI cZ cS O k g a d w0 c f z V T n K G L v]) X (k_count l D cI cZ cS cJ O k g a d w0 c f z V T n K G L v 6 (by omega)) (cwV 1 hts gL_isAhead_X6_count rfl rfl rfl (by decide +kernel) ⟨Nat.le_of_ble_eq_true rfl, Nat.le_of_ble_eq_true rfl⟩) hK hP hD hS hA 0 6 rfl rfl rfl hl.1 rfl (Nat.le_of_ble_eq_true rfl) dL_isAhead_220 ⟨Nat.le_of_ble_eq_true rfl, Nat.le_of_ble_eq_true rfl⟩ (fun u H locs hu hP hD hS => ?_)
  have hP : va_P D vwCl (List.flatten [clP cI cZ cS O k g a d w0 c f z V T n K G L v]) _ := hP
  have hD : va_D A (List.flatten [clP cI cZ cS O k g a d w0 c f z V T n K G L v]) := hD
  refine lv_eqi (y := sm (fun j => b1 (¬ S 3 j = 0)) 7) (by rw [hV0] <;> rfl) ?_
  refine lv_istore (lv' := [(10, .int (sm (fun j => b1 (¬ S 3 j = 0)) 7)), (9, .int (S 12 0)), (8, .int (S 12 2)), (7, .int 0), (6, .int 1), (5, .int (sm (S 6) 8)), (3, .long (lkS S)), (2, .int (nI r)), (1, .int (nI j)), (0, .ref (O 0))]) hx hb dL_isAhead_223 hl (by decide) rfl (fun ls hl => ?_)
  refine lv_aload_n hx hb dL_isAhead_225 rfl (lv_at hl 9 rfl) ?_
  refine lv_bipush (v := 7) hx hb dL_isAhead_226 (by decide) ?_
  refine kcallVJ (U := Unit) (As := [.int 7]) (rest := []) (Wr := []) (Wc := [clP cI cZ cS O k g a d w0 c f z V T n K G L v]) (Wo := fun u => [clP cI cZ cS O k g a d w0 c f z V T n K G L v]) X (k_count l D cI cZ cS cJ O k g a d w0 c f z V T n K G L v 7 (by omega)) (cwV 1 hts gL_isAhead_X6_count rfl rfl rfl (by decide +kernel) ⟨Nat.le_of_ble_eq_true rfl, Nat.le_of_ble_eq_true rfl⟩) hK hP hD hS hA 0 6 rfl rfl rfl hl.1 rfl (Nat.le_of_ble_eq_true rfl) dL_isAhead_228 ⟨Nat.le_of_ble_eq_true rfl, Nat.le_of_ble_eq_true rfl⟩ (fun u H locs hu hP hD hS => ?_)
  have hP : va_P D vwCl (List.flatten [clP cI cZ cS O k g a d w0 c f z V T n K G L v]) _ := hP
  have hD : va_D A (List.flatten [clP cI cZ cS O k g a d w0 c f z V T n K G L v]) := hD
  refine lv_eqi (y := S 12 4) (by rw [hV0] <;> rfl) ?_
  refine lv_istore (lv' := [(11, .int (S 12 4)), (10, .int (sm (fun j => b1 (¬ S 3 j = 0)) 7)), (9, .int (S 12 0)), (8, .int (S 12 2)), (7, .int 0), (6, .int 1), (5, .int (sm (S 6) 8)), (3, .long (lkS S)), (2, .int (nI r)), (1, .int (nI j)), (0, .ref (O 0))]) hx hb dL_isAhead_231 hl (by decide) rfl (fun ls hl => ?_)
  refine lv_aload_n hx hb dL_isAhead_233 rfl (lv_at hl 10 rfl) ?_
  refine kcallVJ (U := (Nat → Nat → Int32) × (Nat → Int32) × (Int32)) (As := []) (rest := []) (Wr := []) (Wc := [clP cI cZ cS O k g a d w0 c f z V T n K G L v]) (Wo := fun u => [clP cI cZ cS O k g a d w0 c f z V T n K u.1 u.2.1 u.2.2]) X (k_snapsIn l D cI cZ cS cJ O k g a d w0 c f z V T n K G L v v9 hOV (by rw [hV0]; exact hv9)) (cwV 0 hts gL_isAhead_X6_snapsIn rfl rfl rfl (by decide +kernel) ⟨Nat.le_of_ble_eq_true rfl, Nat.le_of_ble_eq_true rfl⟩) hK hP hD hS hA 0 6 rfl rfl rfl hl.1 rfl (Nat.le_of_ble_eq_true rfl) dL_isAhead_234 ⟨Nat.le_of_ble_eq_true rfl, Nat.le_of_ble_eq_true rfl⟩ (fun uu H locs hu hP hD hS => ?_)
  obtain ⟨G9, L9, v8⟩ := uu
  have hP : va_P D vwCl (List.flatten [clP cI cZ cS O k g a d w0 c f z V T n K G9 L9 v8]) _ := hP
  have hD : va_D A (List.flatten [clP cI cZ cS O k g a d w0 c f z V T n K G9 L9 v8]) := hD
  refine lv_eqi (y := v9) (rfl) ?_
  refine lv_istore (lv' := [(12, .int v9), (11, .int (S 12 4)), (10, .int (sm (fun j => b1 (¬ S 3 j = 0)) 7)), (9, .int (S 12 0)), (8, .int (S 12 2)), (7, .int 0), (6, .int 1), (5, .int (sm (S 6) 8)), (3, .long (lkS S)), (2, .int (nI r)), (1, .int (nI j)), (0, .ref (O 0))]) hx hb dL_isAhead_237 hl (by decide) rfl (fun ls hl => ?_)
  refine lv_iconst (v := 0) hx hb dL_isAhead_239 (by decide) ?_
  refine lv_istore (lv' := [(13, .int 0), (12, .int v9), (11, .int (S 12 4)), (10, .int (sm (fun j => b1 (¬ S 3 j = 0)) 7)), (9, .int (S 12 0)), (8, .int (S 12 2)), (7, .int 0), (6, .int 1), (5, .int (sm (S 6) 8)), (3, .long (lkS S)), (2, .int (nI r)), (1, .int (nI j)), (0, .ref (O 0))]) hx hb dL_isAhead_240 hl (by decide) rfl (fun ls hl => ?_)
  have hl : lv_has ls 17 [(13, .int 0), (12, .int v9), (11, .int (S 12 4)), (10, .int (sm (fun j => b1 (¬ S 3 j = 0)) 7)), (9, .int (S 12 0)), (8, .int (S 12 2)), (7, .int (sm (lks S) 0)), (6, .int 1), (5, .int (sm (S 6) 8)), (3, .long (lkS S)), (2, .int (nI r)), (1, .int (nI j)), (0, .ref (O 0))] := lv_re hl 6 (x := 0) (y := sm (lks S) 0) rfl (rfl) rfl
  have hl : lv_has ls 17 [(13, .int (nI 0)), (12, .int v9), (11, .int (S 12 4)), (10, .int (sm (fun j => b1 (¬ S 3 j = 0)) 7)), (9, .int (S 12 0)), (8, .int (S 12 2)), (7, .int (sm (lks S) 0)), (6, .int 1), (5, .int (sm (S 6) 8)), (3, .long (lkS S)), (2, .int (nI r)), (1, .int (nI j)), (0, .ref (O 0))] := lv_re hl 0 (x := 0) (y := nI 0) rfl (rfl) rfl
  refine ah_d l D cI cZ cS cJ X hK hA O k g a d w0 c f z V T n K G9 L9 v8 S S7 hO hw j r v9 (fun H locs ls hP hD hS hl => ?_) 9 0 (by omega) (by omega) _ _ _ hP hD hS (lv_sub hl [0, 6, 1, 2, 3, 4, 5, 7, 8, 9, 10, 11, 12] rfl)
  have hP : va_P D vwCl (List.flatten [clP cI cZ cS O k g a d w0 c f z V T n K G9 L9 v8]) _ := hP
  have hD : va_D A (List.flatten [clP cI cZ cS O k g a d w0 c f z V T n K G9 L9 v8]) := hD
  have hl : lv_has ls 17 [(13, .int (nI 8)), (7, .int (sm (lks S) 8)), (12, .int v9), (11, .int (S 12 4)), (10, .int (sm (fun j => b1 (¬ S 3 j = 0)) 7)), (9, .int (S 12 0)), (8, .int (S 12 2)), (6, .int 1), (5, .int (sm (S 6) 8)), (3, .long (lkS S)), (2, .int (nI r)), (1, .int (nI j)), (0, .ref (O 0))] := hl
  exact kk c f z V K G9 L9 v8 v9 hw hv9 _ _ _ hP hD hS (lv_sub hl [1, 2, 3, 4, 5, 6, 7, 8, 9, 10, 11, 12] rfl)

set_option maxHeartbeats 4000000 in
set_option maxRecDepth 100000 in
theorem ah_4 {p : Program} {e : Env} {s : State} {m : MethodId} {args : Array Value} {below : List Frame} {meth : Method} {cd : Code} {Q : State → Prop} {A : Nat → Prop} (l : Launch) (D : va_G) (cI cZ cS cJ : ClassId) (X : CallFix p m cd cL_isAhead 17 s args wsL_isAhead RL) (hK : va_K D vwCl (tyL cI cZ cS cJ) s) (hA : ∀ q, s.heap.size ≤ q → A q) (O k g a d : Nat → Nat) (w0 : Int32) (c : Nat → Nat → Nat) (f : Nat → Option Nat) (z : Nat) (V : Nat → Nat → Nat → Int32) (T : Nat → Int32) (n : Nat) (K G : Nat → Nat → Int32) (L : Nat → Int32) (v : Int32) (S S7 : Nat → Nat → Int32) (hO : OK S) (hw : WI S S7 c f z V) (j r : Nat) (hj : j < 8) (hr : r < 7) (v9 : Int32) (hv9 : Fst S 200 = v9) (kk : ∀ (c : Nat → Nat → Nat) (f : Nat → Option Nat) (z : Nat) (V : Nat → Nat → Nat → Int32) (K G : Nat → Nat → Int32) (L : Nat → Int32) (v : Int32) (_ : WI S S7 c f z V) (H : Heap) (locs : List Loc) (ls : Array Slot), va_P D vwCl (List.flatten [clP cI cZ cS O k g a d w0 c f z V T n K G L v]) H → va_D A (List.flatten [clP cI cZ cS O k g a d w0 c f z V T n K G L v]) → va_S A s.heap H locs → lv_has ls 17 [(6, .int 1), (5, .int (sm (S 6) 8)), (3, .long (lkS S)), (2, .int (nI r)), (1, .int (nI j)), (0, .ref (O 0))] → W p l e RM_isAhead s m args below meth cd H locs 0 0 Q (F0 m 404 ls [])) (H : Heap) (locs : List Loc) (ls : Array Slot) (hP : va_P D vwCl (List.flatten [clP cI cZ cS O k g a d w0 c f z V T n K G L v]) H) (hD : va_D A (List.flatten [clP cI cZ cS O k g a d w0 c f z V T n K G L v])) (hS : va_S A s.heap H locs) (hl : lv_has ls 17 [(7, .int (sm (lks S) 8)), (12, .int v9), (11, .int (S 12 4)), (10, .int (sm (fun j => b1 (¬ S 3 j = 0)) 7)), (9, .int (S 12 0)), (8, .int (S 12 2)), (6, .int 1), (5, .int (sm (S 6) 8)), (3, .long (lkS S)), (2, .int (nI r)), (1, .int (nI j)), (0, .ref (O 0))]) : W p l e RM_isAhead s m args below meth cd H locs 0 0 Q (F0 m 294 ls []) := by
  obtain ⟨hx, hb, hml, hown, hts⟩ := id X
  obtain ⟨hz, hf, hV0, hV7⟩ := id hw
  have hOV : OK (V 0) := by rw [hV0]; exact hO
  refine lv_iload hx hb dL_isAhead_294 (lv_at hl 6 rfl) ?_
  refine lv_if_eq (tgt := 404) hx hb dL_isAhead_296 (by decide) (fun h => absurd h (by decide)) (fun _ => ?_)
  refine lv_aload_n hx hb dL_isAhead_299 rfl (lv_at hl 11 rfl) ?_
  refine lv_iconst (v := 1) hx hb dL_isAhead_300 (by decide) ?_
  refine kcallVJ (U := Unit) (As := [.int 1]) (rest := []) (Wr := []) (Wc := [clP cI cZ cS O k g a d w0 c f z V T n K G L v]) (Wo := fun u => [clP cI cZ cS O k g a d w0 (cN c z) (fN f z) (savZ z) (vput (savV V z) (hrs (V 0) 1)) T n K G L v]) X (k_pass l D cI cZ cS cJ O k g a d w0 c f z V T n K G L v 1 hz hf hOV (by decide) (by decide) (by omega)) (cwV 1 hts gL_isAhead_X6_pass rfl rfl rfl (by decide +kernel) ⟨Nat.le_of_ble_eq_true rfl, Nat.le_of_ble_eq_true rfl⟩) hK hP hD hS hA 0 6 rfl rfl rfl hl.1 rfl (Nat.le_of_ble_eq_true rfl) dL_isAhead_301 ⟨Nat.le_of_ble_eq_true rfl, Nat.le_of_ble_eq_true rfl⟩ (fun u H locs hu hP hD hS => ?_)
  have hP : va_P D vwCl (List.flatten [clP cI cZ cS O k g a d w0 (cN c z) (fN f z) (savZ z) (vput (savV V z) (hrs (V 0) 1)) T n K G L v]) _ := hP
  have hD : va_D A (List.flatten [clP cI cZ cS O k g a d w0 (cN c z) (fN f z) (savZ z) (vput (savV V z) (hrs (V 0) 1)) T n K G L v]) := hD
  refine lv_eqi (y := hrs S 1 12 4 - S 12 4) (by rw [hV0] <;> rfl) ?_
  generalize hE1 : hrs (V 0) 1 = S1 at hP hD
  rw [hV0] at hE1
  have hw1 := WI_save (S' := S1) hw
  have ht1 := (sv_top (V := V) (z := z) (S := S1) hz).trans hV0
  have hp1 := savZ_0 z
  generalize vput (savV V z) S1 = V1 at hP hD hw1 ht1
  generalize cN c z = c1 at hP hD hw1
  generalize fN f z = f1 at hP hD hw1
  generalize savZ z = z1 at hP hD hw1 ht1 hp1
  obtain ⟨hz1, hf1, hV1, hV71⟩ := id hw1
  have hO1 : OK S1 := by rw [← hE1]; exact OK_hrs hO 1
  have hOV1 : OK (V1 0) := by rw [hV1]; exact hO1
  have hP : va_P D vwCl (List.flatten [clP cI cZ cS O k g a d w0 c1 f1 z1 V1 T n K G L v]) _ := hP
  have hD : va_D A (List.flatten [clP cI cZ cS O k g a d w0 c1 f1 z1 V1 T n K G L v]) := hD
  refine lv_istore (lv' := [(13, .int (hrs S 1 12 4 - S 12 4)), (7, .int (sm (lks S) 8)), (12, .int v9), (11, .int (S 12 4)), (10, .int (sm (fun j => b1 (¬ S 3 j = 0)) 7)), (9, .int (S 12 0)), (8, .int (S 12 2)), (6, .int 1), (5, .int (sm (S 6) 8)), (3, .long (lkS S)), (2, .int (nI r)), (1, .int (nI j)), (0, .ref (O 0))]) hx hb dL_isAhead_304 hl (by decide) rfl (fun ls hl => ?_)
  refine lv_aload_n hx hb dL_isAhead_306 rfl (lv_at hl 12 rfl) ?_
  refine lv_iconst (v := 0) hx hb dL_isAhead_307 (by decide) ?_
  refine kcallVJ (U := Unit) (As := [.int 0]) (rest := []) (Wr := []) (Wc := [clP cI cZ cS O k g a d w0 c1 f1 z1 V1 T n K G L v]) (Wo := fun u => [clP cI cZ cS O k g a d w0 c1 f1 z1 V1 T n K G L v]) X (k_count l D cI cZ cS cJ O k g a d w0 c1 f1 z1 V1 T n K G L v 0 (by omega)) (cwV 1 hts gL_isAhead_X6_count rfl rfl rfl (by decide +kernel) ⟨Nat.le_of_ble_eq_true rfl, Nat.le_of_ble_eq_true rfl⟩) hK hP hD hS hA 0 6 rfl rfl rfl hl.1 rfl (Nat.le_of_ble_eq_true rfl) dL_isAhead_308 ⟨Nat.le_of_ble_eq_true rfl, Nat.le_of_ble_eq_true rfl⟩ (fun u H locs hu hP hD hS => ?_)
  have hP : va_P D vwCl (List.flatten [clP cI cZ cS O k g a d w0 c1 f1 z1 V1 T n K G L v]) _ := hP
  have hD : va_D A (List.flatten [clP cI cZ cS O k g a d w0 c1 f1 z1 V1 T n K G L v]) := hD
  refine lv_eqi (y := S1 12 0) (by rw [hV1] <;> rfl) ?_
  refine lv_iload hx hb dL_isAhead_311 (lv_at hl 5 rfl) ?_
  refine lv_iconst (v := 1) hx hb dL_isAhead_313 (by decide) ?_
  refine lv_iadd hx hb dL_isAhead_314 ?_
  refine lv_icmp_ne (tgt := 401) hx hb dL_isAhead_315 (by decide) (fun h => absurd (by rw [← hE1]; rfl) h) (fun _ => ?_)
  refine lv_aload_n hx hb dL_isAhead_318 rfl (lv_at hl 12 rfl) ?_
  refine lv_iconst (v := 4) hx hb dL_isAhead_319 (by decide) ?_
  refine kcallVJ (U := Unit) (As := [.int 4]) (rest := []) (Wr := []) (Wc := [clP cI cZ cS O k g a d w0 c1 f1 z1 V1 T n K G L v]) (Wo := fun u => [clP cI cZ cS O k g a d w0 c1 f1 z1 V1 T n K G L v]) X (k_count l D cI cZ cS cJ O k g a d w0 c1 f1 z1 V1 T n K G L v 4 (by omega)) (cwV 1 hts gL_isAhead_X6_count rfl rfl rfl (by decide +kernel) ⟨Nat.le_of_ble_eq_true rfl, Nat.le_of_ble_eq_true rfl⟩) hK hP hD hS hA 0 6 rfl rfl rfl hl.1 rfl (Nat.le_of_ble_eq_true rfl) dL_isAhead_320 ⟨Nat.le_of_ble_eq_true rfl, Nat.le_of_ble_eq_true rfl⟩ (fun u H locs hu hP hD hS => ?_)
  have hP : va_P D vwCl (List.flatten [clP cI cZ cS O k g a d w0 c1 f1 z1 V1 T n K G L v]) _ := hP
  have hD : va_D A (List.flatten [clP cI cZ cS O k g a d w0 c1 f1 z1 V1 T n K G L v]) := hD
  refine lv_eqi (y := S1 12 2) (by rw [hV1] <;> rfl) ?_
  refine lv_iload hx hb dL_isAhead_323 (lv_at hl 6 rfl) ?_
  refine lv_iload hx hb dL_isAhead_325 (lv_at hl 1 rfl) ?_
  refine lv_iadd hx hb dL_isAhead_327 ?_
  refine lv_icmp_ne (tgt := 401) hx hb dL_isAhead_328 (by decide) (fun h => absurd (by rw [← hE1]; exact pas_4 S) h) (fun _ => ?_)
  refine lv_aload_n hx hb dL_isAhead_331 rfl (lv_at hl 12 rfl) ?_
  refine lv_bipush (v := 7) hx hb dL_isAhead_332 (by decide) ?_
  refine kcallVJ (U := Unit) (As := [.int 7]) (rest := []) (Wr := []) (Wc := [clP cI cZ cS O k g a d w0 c1 f1 z1 V1 T n K G L v]) (Wo := fun u => [clP cI cZ cS O k g a d w0 c1 f1 z1 V1 T n K G L v]) X (k_count l D cI cZ cS cJ O k g a d w0 c1 f1 z1 V1 T n K G L v 7 (by omega)) (cwV 1 hts gL_isAhead_X6_count rfl rfl rfl (by decide +kernel) ⟨Nat.le_of_ble_eq_true rfl, Nat.le_of_ble_eq_true rfl⟩) hK hP hD hS hA 0 6 rfl rfl rfl hl.1 rfl (Nat.le_of_ble_eq_true rfl) dL_isAhead_334 ⟨Nat.le_of_ble_eq_true rfl, Nat.le_of_ble_eq_true rfl⟩ (fun u H locs hu hP hD hS => ?_)
  have hP : va_P D vwCl (List.flatten [clP cI cZ cS O k g a d w0 c1 f1 z1 V1 T n K G L v]) _ := hP
  have hD : va_D A (List.flatten [clP cI cZ cS O k g a d w0 c1 f1 z1 V1 T n K G L v]) := hD
  refine lv_eqi (y := S1 12 4) (by rw [hV1] <;> rfl) ?_
  refine lv_iload hx hb dL_isAhead_337 (lv_at hl 3 rfl) ?_
  refine lv_iload hx hb dL_isAhead_339 (lv_at hl 0 rfl) ?_
  refine lv_iadd hx hb dL_isAhead_341 ?_
  refine lv_icmp_ne (tgt := 401) hx hb dL_isAhead_342 (by decide) (fun h => absurd (by rw [← hE1]; exact (a_ba _ _).symm) h) (fun _ => ?_)
  refine lv_aload_n hx hb dL_isAhead_345 rfl (lv_at hl 12 rfl) ?_
  refine lv_bipush (v := 6) hx hb dL_isAhead_346 (by decide) ?_
  refine kcallVJ (U := Unit) (As := [.int 6]) (rest := []) (Wr := []) (Wc := [clP cI cZ cS O k g a d w0 c1 f1 z1 V1 T n K G L v]) (Wo := fun u => [clP cI cZ cS O k g a d w0 c1 f1 z1 V1 T n K G L v]) X (k_count l D cI cZ cS cJ O k g a d w0 c1 f1 z1 V1 T n K G L v 6 (by omega)) (cwV 1 hts gL_isAhead_X6_count rfl rfl rfl (by decide +kernel) ⟨Nat.le_of_ble_eq_true rfl, Nat.le_of_ble_eq_true rfl⟩) hK hP hD hS hA 0 6 rfl rfl rfl hl.1 rfl (Nat.le_of_ble_eq_true rfl) dL_isAhead_348 ⟨Nat.le_of_ble_eq_true rfl, Nat.le_of_ble_eq_true rfl⟩ (fun u H locs hu hP hD hS => ?_)
  have hP : va_P D vwCl (List.flatten [clP cI cZ cS O k g a d w0 c1 f1 z1 V1 T n K G L v]) _ := hP
  have hD : va_D A (List.flatten [clP cI cZ cS O k g a d w0 c1 f1 z1 V1 T n K G L v]) := hD
  refine lv_eqi (y := sm (fun j => b1 (¬ S1 3 j = 0)) 7) (by rw [hV1] <;> rfl) ?_
  refine lv_iload hx hb dL_isAhead_351 (lv_at hl 4 rfl) ?_
  refine lv_iload hx hb dL_isAhead_353 (lv_at hl 0 rfl) ?_
  refine lv_isub hx hb dL_isAhead_355 ?_
  refine lv_icmp_ne (tgt := 401) hx hb dL_isAhead_356 (by decide) (fun h => absurd (by rw [← hE1]; exact pas_t hO) h) (fun _ => ?_)
  refine lv_iload hx hb dL_isAhead_359 (lv_at hl 0 rfl) ?_
  refine lv_iconst (v := 1) hx hb dL_isAhead_361 (by decide) ?_
  refine lv_icmp_gt (tgt := 401) hx hb dL_isAhead_362 (by decide) (fun h => absurd h (pas_m S)) (fun _ => ?_)
  refine lv_iload hx hb dL_isAhead_365 (lv_at hl 0 rfl) ?_
  refine lv_iconst (v := 1) hx hb dL_isAhead_367 (by decide) ?_
  have jn368 : W p l e RM_isAhead s m args below meth cd H locs 0 0 Q (F0 m 376 ls [.int (b1 (hrs S 1 12 4 - S 12 4 = 1))]) := by
    refine lv_iload hx hb dL_isAhead_376 (lv_at hl 2 rfl) ?_
    refine lv_iconst (v := 1) hx hb dL_isAhead_378 (by decide) ?_
    have jn379 : W p l e RM_isAhead s m args below meth cd H locs 0 0 Q (F0 m 387 ls [.int (b1 (v9 = 1)), .int (b1 (hrs S 1 12 4 - S 12 4 = 1))]) := by
      refine lv_icmp_ne (tgt := 401) hx hb dL_isAhead_387 (by decide) (fun h => absurd (b1_cg (by rw [← hv9]; exact snp_1 (by decide) (by decide))) h) (fun _ => ?_)
      refine lv_aload_n hx hb dL_isAhead_390 rfl (lv_at hl 12 rfl) ?_
      refine kcallVJ (U := Unit) (As := []) (rest := []) (Wr := []) (Wc := [clP cI cZ cS O k g a d w0 c1 f1 z1 V1 T n K G L v]) (Wo := fun u => [clP cI cZ cS O k g a d w0 c1 f1 (z1 - 1) (vput V1 (V1 z1)) T n K G L v]) X (k_undo l D cI cZ cS cJ O k g a d w0 c1 f1 z1 V1 T n K G L v hz1 hf1 hp1 (by rw [ht1]; exact hO)) (cwV 0 hts gL_isAhead_X6_undo rfl rfl rfl (by decide +kernel) ⟨Nat.le_of_ble_eq_true rfl, Nat.le_of_ble_eq_true rfl⟩) hK hP hD hS hA 0 6 rfl rfl rfl hl.1 rfl (Nat.le_of_ble_eq_true rfl) dL_isAhead_391 ⟨Nat.le_of_ble_eq_true rfl, Nat.le_of_ble_eq_true rfl⟩ (fun u H locs hu hP hD hS => ?_)
      have hP : va_P D vwCl (List.flatten [clP cI cZ cS O k g a d w0 c1 f1 (z1 - 1) (vput V1 (V1 z1)) T n K G L v]) _ := hP
      have hD : va_D A (List.flatten [clP cI cZ cS O k g a d w0 c1 f1 (z1 - 1) (vput V1 (V1 z1)) T n K G L v]) := hD
      refine lv_eqi (y := nI (z1 - 1)) (rfl) ?_
      refine lv_if_lt (tgt := 401) hx hb dL_isAhead_394 (by decide) (fun h => absurd h (nI_pos (by omega))) (fun _ => ?_)
      refine lv_iconst (v := 1) hx hb dL_isAhead_397 (by decide) ?_
      refine lv_goto (tgt := 402) hx hb dL_isAhead_398 (by decide) ?_
      refine lv_istore (lv' := [(6, .int 1), (13, .int (hrs S 1 12 4 - S 12 4)), (7, .int (sm (lks S) 8)), (12, .int v9), (11, .int (S 12 4)), (10, .int (sm (fun j => b1 (¬ S 3 j = 0)) 7)), (9, .int (S 12 0)), (8, .int (S 12 2)), (5, .int (sm (S 6) 8)), (3, .long (lkS S)), (2, .int (nI r)), (1, .int (nI j)), (0, .ref (O 0))]) hx hb dL_isAhead_402 hl (by decide) rfl (fun ls hl => ?_)
      exact kk c1 f1 (z1 - 1) (vput V1 (V1 z1)) K G L v (WI_back hw1 hp1 ht1) _ _ _ hP hD hS (lv_sub hl [0, 8, 9, 10, 11, 12] rfl)
    refine lv_icmp_ne (tgt := 386) hx hb dL_isAhead_379 (by decide) (fun c379 => ?_) (fun c379 => ?_)
    · skip
      refine lv_iconst (v := 0) hx hb dL_isAhead_386 (by decide) ?_
      refine lv_eqi (y := b1 (v9 = 1)) (b1_n c379) ?_
      exact jn379
    · skip
      refine lv_iconst (v := 1) hx hb dL_isAhead_382 (by decide) ?_
      refine lv_goto (tgt := 387) hx hb dL_isAhead_383 (by decide) ?_
      refine lv_eqi (y := b1 (v9 = 1)) (b1_y c379) ?_
      exact jn379
  refine lv_icmp_ne (tgt := 375) hx hb dL_isAhead_368 (by decide) (fun c368 => ?_) (fun c368 => ?_)
  · skip
    refine lv_iconst (v := 0) hx hb dL_isAhead_375 (by decide) ?_
    refine lv_eqi (y := b1 (hrs S 1 12 4 - S 12 4 = 1)) (b1_n c368) ?_
    exact jn368
  · skip
    refine lv_iconst (v := 1) hx hb dL_isAhead_371 (by decide) ?_
    refine lv_goto (tgt := 376) hx hb dL_isAhead_372 (by decide) ?_
    refine lv_eqi (y := b1 (hrs S 1 12 4 - S 12 4 = 1)) (b1_y c368) ?_
    exact jn368

set_option maxHeartbeats 4000000 in
set_option maxRecDepth 100000 in
theorem ah_5 {p : Program} {e : Env} {s : State} {m : MethodId} {args : Array Value} {below : List Frame} {meth : Method} {cd : Code} {Q : State → Prop} {A : Nat → Prop} (l : Launch) (D : va_G) (cI cZ cS cJ : ClassId) (X : CallFix p m cd cL_isAhead 17 s args wsL_isAhead RL) (hK : va_K D vwCl (tyL cI cZ cS cJ) s) (hA : ∀ q, s.heap.size ≤ q → A q) (O k g a d : Nat → Nat) (w0 : Int32) (c : Nat → Nat → Nat) (f : Nat → Option Nat) (z : Nat) (V : Nat → Nat → Nat → Int32) (T : Nat → Int32) (n : Nat) (K G : Nat → Nat → Int32) (L : Nat → Int32) (v : Int32) (S S7 : Nat → Nat → Int32) (hO : OK S) (hw : WI S S7 c f z V) (j r : Nat) (hj : j < 8) (hr : r < 7)  (kk : ∀ (c : Nat → Nat → Nat) (f : Nat → Option Nat) (z : Nat) (V : Nat → Nat → Nat → Int32) (K G : Nat → Nat → Int32) (L : Nat → Int32) (v : Int32) (_ : WI S S7 c f z V) (H : Heap) (locs : List Loc) (ls : Array Slot), va_P D vwCl (List.flatten [clP cI cZ cS O k g a d w0 c f z V T n K G L v]) H → va_D A (List.flatten [clP cI cZ cS O k g a d w0 c f z V T n K G L v]) → va_S A s.heap H locs → lv_has ls 17 [(6, .int 1), (5, .int (sm (S 6) 8)), (3, .long (lkS S)), (2, .int (nI r)), (1, .int (nI j)), (0, .ref (O 0))] → W p l e RM_isAhead s m args below meth cd H locs 0 0 Q (F0 m 451 ls [])) (H : Heap) (locs : List Loc) (ls : Array Slot) (hP : va_P D vwCl (List.flatten [clP cI cZ cS O k g a d w0 c f z V T n K G L v]) H) (hD : va_D A (List.flatten [clP cI cZ cS O k g a d w0 c f z V T n K G L v])) (hS : va_S A s.heap H locs) (hl : lv_has ls 17 [(6, .int 1), (5, .int (sm (S 6) 8)), (3, .long (lkS S)), (2, .int (nI r)), (1, .int (nI j)), (0, .ref (O 0))]) : W p l e RM_isAhead s m args below meth cd H locs 0 0 Q (F0 m 404 ls []) := by
  obtain ⟨hx, hb, hml, hown, hts⟩ := id X
  obtain ⟨hz, hf, hV0, hV7⟩ := id hw
  have hOV : OK (V 0) := by rw [hV0]; exact hO
  refine lv_aload_n hx hb dL_isAhead_404 rfl (lv_at hl 5 rfl) ?_
  refine lv_iload_n hx hb dL_isAhead_405 rfl (lv_at hl 4 rfl) ?_
  refine lv_bipush (v := 9) hx hb dL_isAhead_406 (by decide) ?_
  refine kcallVJ (U := Unit) (As := [.int (nI j), .int 9]) (rest := []) (Wr := []) (Wc := [clP cI cZ cS O k g a d w0 c f z V T n K G L v]) (Wo := fun u => [clP cI cZ cS O k g a d w0 c f z V T n K G L v]) X (k_balloon l D cI cZ cS cJ O k g a d w0 c f z V T n K G L v j 9 (by omega) (by omega)) (cwV 2 hts gL_isAhead_X6_balloon rfl rfl rfl (by decide +kernel) ⟨Nat.le_of_ble_eq_true rfl, Nat.le_of_ble_eq_true rfl⟩) hK hP hD hS hA 0 6 rfl rfl rfl hl.1 rfl (Nat.le_of_ble_eq_true rfl) dL_isAhead_408 ⟨Nat.le_of_ble_eq_true rfl, Nat.le_of_ble_eq_true rfl⟩ (fun u H locs hu hP hD hS => ?_)
  have hP : va_P D vwCl (List.flatten [clP cI cZ cS O k g a d w0 c f z V T n K G L v]) _ := hP
  have hD : va_D A (List.flatten [clP cI cZ cS O k g a d w0 c f z V T n K G L v]) := hD
  refine lv_eqi (y := tel S j) (by rw [hV0] <;> rfl) ?_
  refine lv_istore (lv' := [(13, .int (tel S j)), (6, .int 1), (5, .int (sm (S 6) 8)), (3, .long (lkS S)), (2, .int (nI r)), (1, .int (nI j)), (0, .ref (O 0))]) hx hb dL_isAhead_411 hl (by decide) rfl (fun ls hl => ?_)
  refine lv_iload hx hb dL_isAhead_413 (lv_at hl 1 rfl) ?_
  refine lv_if_eq (tgt := 448) hx hb dL_isAhead_415 (by decide) (fun h => absurd h (by decide)) (fun _ => ?_)
  refine lv_aload_n hx hb dL_isAhead_418 rfl (lv_at hl 6 rfl) ?_
  refine lv_iload_n hx hb dL_isAhead_419 rfl (lv_at hl 5 rfl) ?_
  refine kcallVJ (U := Unit) (As := [.int (nI j)]) (rest := []) (Wr := []) (Wc := [clP cI cZ cS O k g a d w0 c f z V T n K G L v]) (Wo := fun u => [clP cI cZ cS O k g a d w0 (cN c z) (fN f z) (savZ z) (vput (savV V z) (notS (V 0) (cy (V 0)) j)) T n K G L v]) X (k_note l D cI cZ cS cJ O k g a d w0 c f z V T n K G L v j hz hf hOV (by omega)) (cwV 1 hts gL_isAhead_X6_note rfl rfl rfl (by decide +kernel) ⟨Nat.le_of_ble_eq_true rfl, Nat.le_of_ble_eq_true rfl⟩) hK hP hD hS hA 0 6 rfl rfl rfl hl.1 rfl (Nat.le_of_ble_eq_true rfl) dL_isAhead_420 ⟨Nat.le_of_ble_eq_true rfl, Nat.le_of_ble_eq_true rfl⟩ (fun u H locs hu hP hD hS => ?_)
  have hP : va_P D vwCl (List.flatten [clP cI cZ cS O k g a d w0 (cN c z) (fN f z) (savZ z) (vput (savV V z) (notS (V 0) (cy (V 0)) j)) T n K G L v]) _ := hP
  have hD : va_D A (List.flatten [clP cI cZ cS O k g a d w0 (cN c z) (fN f z) (savZ z) (vput (savV V z) (notS (V 0) (cy (V 0)) j)) T n K G L v]) := hD
  refine lv_eqi (y := tel S j) (by rw [hV0] <;> rfl) ?_
  generalize hE1 : notS (V 0) (cy (V 0)) j = S1 at hP hD
  rw [hV0] at hE1
  have hw1 := WI_save (S' := S1) hw
  have ht1 := (sv_top (V := V) (z := z) (S := S1) hz).trans hV0
  have hp1 := savZ_0 z
  generalize vput (savV V z) S1 = V1 at hP hD hw1 ht1
  generalize cN c z = c1 at hP hD hw1
  generalize fN f z = f1 at hP hD hw1
  generalize savZ z = z1 at hP hD hw1 ht1 hp1
  obtain ⟨hz1, hf1, hV1, hV71⟩ := id hw1
  have hO1 : OK S1 := by rw [← hE1]; exact OK_not hO
  have hOV1 : OK (V1 0) := by rw [hV1]; exact hO1
  have hP : va_P D vwCl (List.flatten [clP cI cZ cS O k g a d w0 c1 f1 z1 V1 T n K G L v]) _ := hP
  have hD : va_D A (List.flatten [clP cI cZ cS O k g a d w0 c1 f1 z1 V1 T n K G L v]) := hD
  refine lv_iload hx hb dL_isAhead_423 (lv_at hl 0 rfl) ?_
  refine lv_icmp_ne (tgt := 448) hx hb dL_isAhead_425 (by decide) (fun h => absurd rfl h) (fun _ => ?_)
  refine lv_aload_n hx hb dL_isAhead_428 rfl (lv_at hl 6 rfl) ?_
  refine lv_bipush (v := 13) hx hb dL_isAhead_429 (by decide) ?_
  refine kcallVJ (U := Unit) (As := [.int 13]) (rest := []) (Wr := []) (Wc := [clP cI cZ cS O k g a d w0 c1 f1 z1 V1 T n K G L v]) (Wo := fun u => [clP cI cZ cS O k g a d w0 c1 f1 z1 V1 T n K G L v]) X (k_count l D cI cZ cS cJ O k g a d w0 c1 f1 z1 V1 T n K G L v 13 (by omega)) (cwV 1 hts gL_isAhead_X6_count rfl rfl rfl (by decide +kernel) ⟨Nat.le_of_ble_eq_true rfl, Nat.le_of_ble_eq_true rfl⟩) hK hP hD hS hA 0 6 rfl rfl rfl hl.1 rfl (Nat.le_of_ble_eq_true rfl) dL_isAhead_431 ⟨Nat.le_of_ble_eq_true rfl, Nat.le_of_ble_eq_true rfl⟩ (fun u H locs hu hP hD hS => ?_)
  have hP : va_P D vwCl (List.flatten [clP cI cZ cS O k g a d w0 c1 f1 z1 V1 T n K G L v]) _ := hP
  have hD : va_D A (List.flatten [clP cI cZ cS O k g a d w0 c1 f1 z1 V1 T n K G L v]) := hD
  refine lv_eqi (y := S1 12 8) (by rw [hV1] <;> rfl) ?_
  refine lv_if_le (tgt := 448) hx hb dL_isAhead_434 (by decide) (fun h => absurd h (by rw [← hE1]; exact note_1 hO)) (fun _ => ?_)
  refine lv_aload_n hx hb dL_isAhead_437 rfl (lv_at hl 6 rfl) ?_
  refine kcallVJ (U := Unit) (As := []) (rest := []) (Wr := []) (Wc := [clP cI cZ cS O k g a d w0 c1 f1 z1 V1 T n K G L v]) (Wo := fun u => [clP cI cZ cS O k g a d w0 c1 f1 (z1 - 1) (vput V1 (V1 z1)) T n K G L v]) X (k_undo l D cI cZ cS cJ O k g a d w0 c1 f1 z1 V1 T n K G L v hz1 hf1 hp1 (by rw [ht1]; exact hO)) (cwV 0 hts gL_isAhead_X6_undo rfl rfl rfl (by decide +kernel) ⟨Nat.le_of_ble_eq_true rfl, Nat.le_of_ble_eq_true rfl⟩) hK hP hD hS hA 0 6 rfl rfl rfl hl.1 rfl (Nat.le_of_ble_eq_true rfl) dL_isAhead_438 ⟨Nat.le_of_ble_eq_true rfl, Nat.le_of_ble_eq_true rfl⟩ (fun u H locs hu hP hD hS => ?_)
  have hP : va_P D vwCl (List.flatten [clP cI cZ cS O k g a d w0 c1 f1 (z1 - 1) (vput V1 (V1 z1)) T n K G L v]) _ := hP
  have hD : va_D A (List.flatten [clP cI cZ cS O k g a d w0 c1 f1 (z1 - 1) (vput V1 (V1 z1)) T n K G L v]) := hD
  refine lv_eqi (y := nI (z1 - 1)) (rfl) ?_
  refine lv_if_lt (tgt := 448) hx hb dL_isAhead_441 (by decide) (fun h => absurd h (nI_pos (by omega))) (fun _ => ?_)
  refine lv_iconst (v := 1) hx hb dL_isAhead_444 (by decide) ?_
  refine lv_goto (tgt := 449) hx hb dL_isAhead_445 (by decide) ?_
  refine lv_istore (lv' := [(6, .int 1), (13, .int (tel S j)), (5, .int (sm (S 6) 8)), (3, .long (lkS S)), (2, .int (nI r)), (1, .int (nI j)), (0, .ref (O 0))]) hx hb dL_isAhead_449 hl (by decide) rfl (fun ls hl => ?_)
  exact kk c1 f1 (z1 - 1) (vput V1 (V1 z1)) K G L v (WI_back hw1 hp1 ht1) _ _ _ hP hD hS (lv_sub hl [0, 2, 3, 4, 5, 6] rfl)

set_option maxHeartbeats 4000000 in
set_option maxRecDepth 100000 in
theorem ah_6 {p : Program} {e : Env} {s : State} {m : MethodId} {args : Array Value} {below : List Frame} {meth : Method} {cd : Code} {Q : State → Prop} {A : Nat → Prop} (l : Launch) (D : va_G) (cI cZ cS cJ : ClassId) (X : CallFix p m cd cL_isAhead 17 s args wsL_isAhead RL) (hK : va_K D vwCl (tyL cI cZ cS cJ) s) (hA : ∀ q, s.heap.size ≤ q → A q) (O k g a d : Nat → Nat) (w0 : Int32) (c : Nat → Nat → Nat) (f : Nat → Option Nat) (z : Nat) (V : Nat → Nat → Nat → Int32) (T : Nat → Int32) (n : Nat) (K G : Nat → Nat → Int32) (L : Nat → Int32) (v : Int32) (S S7 : Nat → Nat → Int32) (hO : OK S) (hw : WI S S7 c f z V) (j r : Nat) (hj : j < 8) (hr : r < 7)  (kk : ∀ (c : Nat → Nat → Nat) (f : Nat → Option Nat) (z : Nat) (V : Nat → Nat → Nat → Int32) (K G : Nat → Nat → Int32) (L : Nat → Int32) (v : Int32) (_ : WI S S7 c f z V) (H : Heap) (locs : List Loc) (ls : Array Slot), va_P D vwCl (List.flatten [clP cI cZ cS O k g a d w0 c f z V T n K G L v]) H → va_D A (List.flatten [clP cI cZ cS O k g a d w0 c f z V T n K G L v]) → va_S A s.heap H locs → lv_has ls 17 [(6, .int 1), (5, .int (sm (S 6) 8)), (3, .long (lkS S)), (2, .int (nI r)), (1, .int (nI j)), (0, .ref (O 0))] → W p l e RM_isAhead s m args below meth cd H locs 0 0 Q (F0 m 575 ls [])) (H : Heap) (locs : List Loc) (ls : Array Slot) (hP : va_P D vwCl (List.flatten [clP cI cZ cS O k g a d w0 c f z V T n K G L v]) H) (hD : va_D A (List.flatten [clP cI cZ cS O k g a d w0 c f z V T n K G L v])) (hS : va_S A s.heap H locs) (hl : lv_has ls 17 [(6, .int 1), (5, .int (sm (S 6) 8)), (3, .long (lkS S)), (2, .int (nI r)), (1, .int (nI j)), (0, .ref (O 0))]) : W p l e RM_isAhead s m args below meth cd H locs 0 0 Q (F0 m 451 ls []) := by
  obtain ⟨hx, hb, hml, hown, hts⟩ := id X
  obtain ⟨hz, hf, hV0, hV7⟩ := id hw
  have hOV : OK (V 0) := by rw [hV0]; exact hO
  refine lv_iload hx hb dL_isAhead_451 (lv_at hl 0 rfl) ?_
  refine lv_if_eq (tgt := 575) hx hb dL_isAhead_453 (by decide) (fun h => absurd h (by decide)) (fun _ => ?_)
  refine lv_aload_n hx hb dL_isAhead_456 rfl (lv_at hl 5 rfl) ?_
  refine lv_iconst (v := 2) hx hb dL_isAhead_457 (by decide) ?_
  refine kcallVJ (U := Unit) (As := [.int 2]) (rest := []) (Wr := []) (Wc := [clP cI cZ cS O k g a d w0 c f z V T n K G L v]) (Wo := fun u => [clP cI cZ cS O k g a d w0 (cN c z) (fN f z) (savZ z) (vput (savV V z) (hrs (V 0) 2)) T n K G L v]) X (k_pass l D cI cZ cS cJ O k g a d w0 c f z V T n K G L v 2 hz hf hOV (by decide) (by decide) (by omega)) (cwV 1 hts gL_isAhead_X6_pass rfl rfl rfl (by decide +kernel) ⟨Nat.le_of_ble_eq_true rfl, Nat.le_of_ble_eq_true rfl⟩) hK hP hD hS hA 0 6 rfl rfl rfl hl.1 rfl (Nat.le_of_ble_eq_true rfl) dL_isAhead_458 ⟨Nat.le_of_ble_eq_true rfl, Nat.le_of_ble_eq_true rfl⟩ (fun u H locs hu hP hD hS => ?_)
  have hP : va_P D vwCl (List.flatten [clP cI cZ cS O k g a d w0 (cN c z) (fN f z) (savZ z) (vput (savV V z) (hrs (V 0) 2)) T n K G L v]) _ := hP
  have hD : va_D A (List.flatten [clP cI cZ cS O k g a d w0 (cN c z) (fN f z) (savZ z) (vput (savV V z) (hrs (V 0) 2)) T n K G L v]) := hD
  refine lv_eqi (y := hrs S 2 12 4 - S 12 4) (by rw [hV0] <;> rfl) ?_
  generalize hE1 : hrs (V 0) 2 = S1 at hP hD
  rw [hV0] at hE1
  have hw1 := WI_save (S' := S1) hw
  have ht1 := (sv_top (V := V) (z := z) (S := S1) hz).trans hV0
  have hp1 := savZ_0 z
  generalize vput (savV V z) S1 = V1 at hP hD hw1 ht1
  generalize cN c z = c1 at hP hD hw1
  generalize fN f z = f1 at hP hD hw1
  generalize savZ z = z1 at hP hD hw1 ht1 hp1
  obtain ⟨hz1, hf1, hV1, hV71⟩ := id hw1
  have hO1 : OK S1 := by rw [← hE1]; exact OK_hrs hO 2
  have hOV1 : OK (V1 0) := by rw [hV1]; exact hO1
  have hP : va_P D vwCl (List.flatten [clP cI cZ cS O k g a d w0 c1 f1 z1 V1 T n K G L v]) _ := hP
  have hD : va_D A (List.flatten [clP cI cZ cS O k g a d w0 c1 f1 z1 V1 T n K G L v]) := hD
  refine lv_if_lt (tgt := 476) hx hb dL_isAhead_461 (by decide) (fun h => absurd h (pas_nn S (by decide))) (fun _ => ?_)
  refine lv_aload_n hx hb dL_isAhead_464 rfl (lv_at hl 5 rfl) ?_
  refine lv_iconst (v := 3) hx hb dL_isAhead_465 (by decide) ?_
  refine kcallVJ (U := Unit) (As := [.int 3]) (rest := []) (Wr := []) (Wc := [clP cI cZ cS O k g a d w0 c1 f1 z1 V1 T n K G L v]) (Wo := fun u => [clP cI cZ cS O k g a d w0 (cN c1 z1) (fN f1 z1) (savZ z1) (vput (savV V1 z1) (hrs (V1 0) 3)) T n K G L v]) X (k_pass l D cI cZ cS cJ O k g a d w0 c1 f1 z1 V1 T n K G L v 3 hz1 hf1 hOV1 (by decide) (by decide) (by omega)) (cwV 1 hts gL_isAhead_X6_pass rfl rfl rfl (by decide +kernel) ⟨Nat.le_of_ble_eq_true rfl, Nat.le_of_ble_eq_true rfl⟩) hK hP hD hS hA 0 6 rfl rfl rfl hl.1 rfl (Nat.le_of_ble_eq_true rfl) dL_isAhead_466 ⟨Nat.le_of_ble_eq_true rfl, Nat.le_of_ble_eq_true rfl⟩ (fun u H locs hu hP hD hS => ?_)
  have hP : va_P D vwCl (List.flatten [clP cI cZ cS O k g a d w0 (cN c1 z1) (fN f1 z1) (savZ z1) (vput (savV V1 z1) (hrs (V1 0) 3)) T n K G L v]) _ := hP
  have hD : va_D A (List.flatten [clP cI cZ cS O k g a d w0 (cN c1 z1) (fN f1 z1) (savZ z1) (vput (savV V1 z1) (hrs (V1 0) 3)) T n K G L v]) := hD
  refine lv_eqi (y := hrs S1 3 12 4 - S1 12 4) (by rw [hV1] <;> rfl) ?_
  generalize hE2 : hrs (V1 0) 3 = S2 at hP hD
  rw [hV1] at hE2
  have hw2 := WI_save (S' := S2) hw1
  have ht2 := (sv_top (V := V1) (z := z1) (S := S2) hz1).trans hV1
  have hp2 := savZ_0 z1
  have hq2 := savZ_1 hp1
  have hu2 := (sv_nxt (V := V1) (z := z1) (S := S2) hz1 hp1).trans ht1
  generalize vput (savV V1 z1) S2 = V2 at hP hD hw2 ht2 hu2
  generalize cN c1 z1 = c2 at hP hD hw2
  generalize fN f1 z1 = f2 at hP hD hw2
  generalize savZ z1 = z2 at hP hD hw2 ht2 hp2 hq2 hu2
  obtain ⟨hz2, hf2, hV2, hV72⟩ := id hw2
  have hO2 : OK S2 := by rw [← hE2]; exact OK_hrs hO1 3
  have hOV2 : OK (V2 0) := by rw [hV2]; exact hO2
  have hP : va_P D vwCl (List.flatten [clP cI cZ cS O k g a d w0 c2 f2 z2 V2 T n K G L v]) _ := hP
  have hD : va_D A (List.flatten [clP cI cZ cS O k g a d w0 c2 f2 z2 V2 T n K G L v]) := hD
  refine lv_if_lt (tgt := 476) hx hb dL_isAhead_469 (by decide) (fun h => absurd h (pas_nn S1 (by decide))) (fun _ => ?_)
  refine lv_iconst (v := 1) hx hb dL_isAhead_472 (by decide) ?_
  refine lv_goto (tgt := 477) hx hb dL_isAhead_473 (by decide) ?_
  refine lv_istore (lv' := [(6, .int 1), (5, .int (sm (S 6) 8)), (3, .long (lkS S)), (2, .int (nI r)), (1, .int (nI j)), (0, .ref (O 0))]) hx hb dL_isAhead_477 hl (by decide) rfl (fun ls hl => ?_)
  refine lv_aload_n hx hb dL_isAhead_479 rfl (lv_at hl 5 rfl) ?_
  refine lv_bipush (v := 9) hx hb dL_isAhead_480 (by decide) ?_
  refine kcallVJ (U := Unit) (As := [.int 9]) (rest := []) (Wr := []) (Wc := [clP cI cZ cS O k g a d w0 c2 f2 z2 V2 T n K G L v]) (Wo := fun u => [clP cI cZ cS O k g a d w0 c2 f2 z2 V2 T n K G L v]) X (k_count l D cI cZ cS cJ O k g a d w0 c2 f2 z2 V2 T n K G L v 9 (by omega)) (cwV 1 hts gL_isAhead_X6_count rfl rfl rfl (by decide +kernel) ⟨Nat.le_of_ble_eq_true rfl, Nat.le_of_ble_eq_true rfl⟩) hK hP hD hS hA 0 6 rfl rfl rfl hl.1 rfl (Nat.le_of_ble_eq_true rfl) dL_isAhead_482 ⟨Nat.le_of_ble_eq_true rfl, Nat.le_of_ble_eq_true rfl⟩ (fun u H locs hu hP hD hS => ?_)
  have hP : va_P D vwCl (List.flatten [clP cI cZ cS O k g a d w0 c2 f2 z2 V2 T n K G L v]) _ := hP
  have hD : va_D A (List.flatten [clP cI cZ cS O k g a d w0 c2 f2 z2 V2 T n K G L v]) := hD
  refine lv_eqi (y := sm (S2 6) 8) (by rw [hV2] <;> rfl) ?_
  refine lv_istore (lv' := [(14, .int (sm (S2 6) 8)), (6, .int 1), (5, .int (sm (S 6) 8)), (3, .long (lkS S)), (2, .int (nI r)), (1, .int (nI j)), (0, .ref (O 0))]) hx hb dL_isAhead_485 hl (by decide) rfl (fun ls hl => ?_)
  refine lv_aload_n hx hb dL_isAhead_487 rfl (lv_at hl 6 rfl) ?_
  refine lv_iconst (v := 1) hx hb dL_isAhead_488 (by decide) ?_
  refine kcallVJ (U := Unit) (As := [.int 1]) (rest := []) (Wr := []) (Wc := [clP cI cZ cS O k g a d w0 c2 f2 z2 V2 T n K G L v]) (Wo := fun u => [clP cI cZ cS O k g a d w0 c2 f2 z2 V2 T n K G L v]) X (k_count l D cI cZ cS cJ O k g a d w0 c2 f2 z2 V2 T n K G L v 1 (by omega)) (cwV 1 hts gL_isAhead_X6_count rfl rfl rfl (by decide +kernel) ⟨Nat.le_of_ble_eq_true rfl, Nat.le_of_ble_eq_true rfl⟩) hK hP hD hS hA 0 6 rfl rfl rfl hl.1 rfl (Nat.le_of_ble_eq_true rfl) dL_isAhead_489 ⟨Nat.le_of_ble_eq_true rfl, Nat.le_of_ble_eq_true rfl⟩ (fun u H locs hu hP hD hS => ?_)
  have hP : va_P D vwCl (List.flatten [clP cI cZ cS O k g a d w0 c2 f2 z2 V2 T n K G L v]) _ := hP
  have hD : va_D A (List.flatten [clP cI cZ cS O k g a d w0 c2 f2 z2 V2 T n K G L v]) := hD
  refine lv_eqi (y := sm (S2 0) 8) (by rw [hV2] <;> rfl) ?_
  refine lv_istore (lv' := [(15, .int (sm (S2 0) 8)), (14, .int (sm (S2 6) 8)), (6, .int 1), (5, .int (sm (S 6) 8)), (3, .long (lkS S)), (2, .int (nI r)), (1, .int (nI j)), (0, .ref (O 0))]) hx hb dL_isAhead_492 hl (by decide) rfl (fun ls hl => ?_)
  refine lv_aload_n hx hb dL_isAhead_494 rfl (lv_at hl 7 rfl) ?_
  refine lv_bipush (v := 6) hx hb dL_isAhead_495 (by decide) ?_
  refine kcallVJ (U := Unit) (As := [.int 6]) (rest := []) (Wr := []) (Wc := [clP cI cZ cS O k g a d w0 c2 f2 z2 V2 T n K G L v]) (Wo := fun u => [clP cI cZ cS O k g a d w0 c2 f2 z2 V2 T n K G L v]) X (k_count l D cI cZ cS cJ O k g a d w0 c2 f2 z2 V2 T n K G L v 6 (by omega)) (cwV 1 hts gL_isAhead_X6_count rfl rfl rfl (by decide +kernel) ⟨Nat.le_of_ble_eq_true rfl, Nat.le_of_ble_eq_true rfl⟩) hK hP hD hS hA 0 6 rfl rfl rfl hl.1 rfl (Nat.le_of_ble_eq_true rfl) dL_isAhead_497 ⟨Nat.le_of_ble_eq_true rfl, Nat.le_of_ble_eq_true rfl⟩ (fun u H locs hu hP hD hS => ?_)
  have hP : va_P D vwCl (List.flatten [clP cI cZ cS O k g a d w0 c2 f2 z2 V2 T n K G L v]) _ := hP
  have hD : va_D A (List.flatten [clP cI cZ cS O k g a d w0 c2 f2 z2 V2 T n K G L v]) := hD
  refine lv_eqi (y := sm (fun j => b1 (¬ S2 3 j = 0)) 7) (by rw [hV2] <;> rfl) ?_
  refine lv_istore (lv' := [(16, .int (sm (fun j => b1 (¬ S2 3 j = 0)) 7)), (15, .int (sm (S2 0) 8)), (14, .int (sm (S2 6) 8)), (6, .int 1), (5, .int (sm (S 6) 8)), (3, .long (lkS S)), (2, .int (nI r)), (1, .int (nI j)), (0, .ref (O 0))]) hx hb dL_isAhead_500 hl (by decide) rfl (fun ls hl => ?_)
  refine lv_iload hx hb dL_isAhead_502 (lv_at hl 3 rfl) ?_
  refine lv_if_eq (tgt := 572) hx hb dL_isAhead_504 (by decide) (fun h => absurd h (by decide)) (fun _ => ?_)
  refine lv_aload_n hx hb dL_isAhead_507 rfl (lv_at hl 8 rfl) ?_
  refine kcallVJ (U := Unit) (As := []) (rest := []) (Wr := []) (Wc := [clP cI cZ cS O k g a d w0 c2 f2 z2 V2 T n K G L v]) (Wo := fun u => [clP cI cZ cS O k g a d w0 c2 f2 (z2 - 1) (vput V2 (V2 z2)) T n K G L v]) X (k_undo l D cI cZ cS cJ O k g a d w0 c2 f2 z2 V2 T n K G L v hz2 hf2 hp2 (by rw [ht2]; exact hO1)) (cwV 0 hts gL_isAhead_X6_undo rfl rfl rfl (by decide +kernel) ⟨Nat.le_of_ble_eq_true rfl, Nat.le_of_ble_eq_true rfl⟩) hK hP hD hS hA 0 6 rfl rfl rfl hl.1 rfl (Nat.le_of_ble_eq_true rfl) dL_isAhead_508 ⟨Nat.le_of_ble_eq_true rfl, Nat.le_of_ble_eq_true rfl⟩ (fun u H locs hu hP hD hS => ?_)
  have hP : va_P D vwCl (List.flatten [clP cI cZ cS O k g a d w0 c2 f2 (z2 - 1) (vput V2 (V2 z2)) T n K G L v]) _ := hP
  have hD : va_D A (List.flatten [clP cI cZ cS O k g a d w0 c2 f2 (z2 - 1) (vput V2 (V2 z2)) T n K G L v]) := hD
  refine lv_eqi (y := nI (z2 - 1)) (rfl) ?_
  have hw3 := WI_back hw2 hp2 ht2
  have hu3 : vput V2 (V2 z2) (z2 - 1) = S := by rw [vput_n (by omega)]; exact hu2
  have hp3 : 0 < z2 - 1 := by omega
  generalize hVq : vput V2 (V2 z2) = V3 at hP hD hw3 hu3
  generalize hzq : z2 - 1 = z3 at hP hD hw3 hu3 hp3
  obtain ⟨hz3, hf3, hV3, hV73⟩ := id hw3
  have hP : va_P D vwCl (List.flatten [clP cI cZ cS O k g a d w0 c2 f2 z3 V3 T n K G L v]) _ := hP
  have hD : va_D A (List.flatten [clP cI cZ cS O k g a d w0 c2 f2 z3 V3 T n K G L v]) := hD
  refine lv_if_lt (tgt := 572) hx hb dL_isAhead_511 (by decide) (fun h => absurd h (nI_pos (by omega))) (fun _ => ?_)
  refine lv_aload_n hx hb dL_isAhead_514 rfl (lv_at hl 8 rfl) ?_
  refine kcallVJ (U := Unit) (As := []) (rest := []) (Wr := []) (Wc := [clP cI cZ cS O k g a d w0 c2 f2 z3 V3 T n K G L v]) (Wo := fun u => [clP cI cZ cS O k g a d w0 c2 f2 (z3 - 1) (vput V3 (V3 z3)) T n K G L v]) X (k_undo l D cI cZ cS cJ O k g a d w0 c2 f2 z3 V3 T n K G L v hz3 hf3 hp3 (by rw [hu3]; exact hO)) (cwV 0 hts gL_isAhead_X6_undo rfl rfl rfl (by decide +kernel) ⟨Nat.le_of_ble_eq_true rfl, Nat.le_of_ble_eq_true rfl⟩) hK hP hD hS hA 0 6 rfl rfl rfl hl.1 rfl (Nat.le_of_ble_eq_true rfl) dL_isAhead_515 ⟨Nat.le_of_ble_eq_true rfl, Nat.le_of_ble_eq_true rfl⟩ (fun u H locs hu hP hD hS => ?_)
  have hP : va_P D vwCl (List.flatten [clP cI cZ cS O k g a d w0 c2 f2 (z3 - 1) (vput V3 (V3 z3)) T n K G L v]) _ := hP
  have hD : va_D A (List.flatten [clP cI cZ cS O k g a d w0 c2 f2 (z3 - 1) (vput V3 (V3 z3)) T n K G L v]) := hD
  refine lv_eqi (y := nI (z3 - 1)) (rfl) ?_
  have hw4 := WI_back hw3 hp3 hu3
  generalize hVr : vput V3 (V3 z3) = V4 at hP hD hw4
  generalize hzr : z3 - 1 = z4 at hP hD hw4
  obtain ⟨hz4, hf4, hV4, hV74⟩ := id hw4
  have hOV4 : OK (V4 0) := by rw [hV4]; exact hO
  have hP : va_P D vwCl (List.flatten [clP cI cZ cS O k g a d w0 c2 f2 z4 V4 T n K G L v]) _ := hP
  have hD : va_D A (List.flatten [clP cI cZ cS O k g a d w0 c2 f2 z4 V4 T n K G L v]) := hD
  refine lv_if_lt (tgt := 572) hx hb dL_isAhead_518 (by decide) (fun h => absurd h (nI_pos (by omega))) (fun _ => ?_)
  refine lv_aload_n hx hb dL_isAhead_521 rfl (lv_at hl 8 rfl) ?_
  refine lv_iconst (v := 5) hx hb dL_isAhead_522 (by decide) ?_
  refine kcallVJ (U := Unit) (As := [.int 5]) (rest := []) (Wr := []) (Wc := [clP cI cZ cS O k g a d w0 c2 f2 z4 V4 T n K G L v]) (Wo := fun u => [clP cI cZ cS O k g a d w0 (cN c2 z4) (fN f2 z4) (savZ z4) (vput (savV V4 z4) (hrs (V4 0) 5)) T n K G L v]) X (k_pass l D cI cZ cS cJ O k g a d w0 c2 f2 z4 V4 T n K G L v 5 hz4 hf4 hOV4 (by decide) (by decide) (by omega)) (cwV 1 hts gL_isAhead_X6_pass rfl rfl rfl (by decide +kernel) ⟨Nat.le_of_ble_eq_true rfl, Nat.le_of_ble_eq_true rfl⟩) hK hP hD hS hA 0 6 rfl rfl rfl hl.1 rfl (Nat.le_of_ble_eq_true rfl) dL_isAhead_523 ⟨Nat.le_of_ble_eq_true rfl, Nat.le_of_ble_eq_true rfl⟩ (fun u H locs hu hP hD hS => ?_)
  have hP : va_P D vwCl (List.flatten [clP cI cZ cS O k g a d w0 (cN c2 z4) (fN f2 z4) (savZ z4) (vput (savV V4 z4) (hrs (V4 0) 5)) T n K G L v]) _ := hP
  have hD : va_D A (List.flatten [clP cI cZ cS O k g a d w0 (cN c2 z4) (fN f2 z4) (savZ z4) (vput (savV V4 z4) (hrs (V4 0) 5)) T n K G L v]) := hD
  refine lv_eqi (y := hrs S 5 12 4 - S 12 4) (by rw [hV4] <;> rfl) ?_
  generalize hE5 : hrs (V4 0) 5 = S5 at hP hD
  rw [hV4] at hE5
  have hw5 := WI_save (S' := S5) hw4
  have ht5 := (sv_top (V := V4) (z := z4) (S := S5) hz4).trans hV4
  have hp5 := savZ_0 z4
  generalize vput (savV V4 z4) S5 = V5 at hP hD hw5 ht5
  generalize cN c2 z4 = c5 at hP hD hw5
  generalize fN f2 z4 = f5 at hP hD hw5
  generalize savZ z4 = z5 at hP hD hw5 ht5 hp5
  obtain ⟨hz5, hf5, hV5, hV75⟩ := id hw5
  have hO5 : OK S5 := by rw [← hE5]; exact OK_hrs hO 5
  have hOV5 : OK (V5 0) := by rw [hV5]; exact hO5
  have hP : va_P D vwCl (List.flatten [clP cI cZ cS O k g a d w0 c5 f5 z5 V5 T n K G L v]) _ := hP
  have hD : va_D A (List.flatten [clP cI cZ cS O k g a d w0 c5 f5 z5 V5 T n K G L v]) := hD
  have e25 : S2 = S5 := by rw [← hE2, ← hE1, ← hE5]; exact hrs_add S 2 3
  refine lv_if_lt (tgt := 572) hx hb dL_isAhead_526 (by decide) (fun h => absurd h (pas_nn S (by decide))) (fun _ => ?_)
  refine lv_aload_n hx hb dL_isAhead_529 rfl (lv_at hl 8 rfl) ?_
  refine lv_bipush (v := 9) hx hb dL_isAhead_530 (by decide) ?_
  refine kcallVJ (U := Unit) (As := [.int 9]) (rest := []) (Wr := []) (Wc := [clP cI cZ cS O k g a d w0 c5 f5 z5 V5 T n K G L v]) (Wo := fun u => [clP cI cZ cS O k g a d w0 c5 f5 z5 V5 T n K G L v]) X (k_count l D cI cZ cS cJ O k g a d w0 c5 f5 z5 V5 T n K G L v 9 (by omega)) (cwV 1 hts gL_isAhead_X6_count rfl rfl rfl (by decide +kernel) ⟨Nat.le_of_ble_eq_true rfl, Nat.le_of_ble_eq_true rfl⟩) hK hP hD hS hA 0 6 rfl rfl rfl hl.1 rfl (Nat.le_of_ble_eq_true rfl) dL_isAhead_532 ⟨Nat.le_of_ble_eq_true rfl, Nat.le_of_ble_eq_true rfl⟩ (fun u H locs hu hP hD hS => ?_)
  have hP : va_P D vwCl (List.flatten [clP cI cZ cS O k g a d w0 c5 f5 z5 V5 T n K G L v]) _ := hP
  have hD : va_D A (List.flatten [clP cI cZ cS O k g a d w0 c5 f5 z5 V5 T n K G L v]) := hD
  refine lv_eqi (y := sm (S5 6) 8) (by rw [hV5] <;> rfl) ?_
  refine lv_iload hx hb dL_isAhead_535 (lv_at hl 2 rfl) ?_
  refine lv_icmp_ne (tgt := 572) hx hb dL_isAhead_537 (by decide) (fun h => absurd (by rw [e25]) h) (fun _ => ?_)
  refine lv_aload_n hx hb dL_isAhead_540 rfl (lv_at hl 8 rfl) ?_
  refine lv_iconst (v := 1) hx hb dL_isAhead_541 (by decide) ?_
  refine kcallVJ (U := Unit) (As := [.int 1]) (rest := []) (Wr := []) (Wc := [clP cI cZ cS O k g a d w0 c5 f5 z5 V5 T n K G L v]) (Wo := fun u => [clP cI cZ cS O k g a d w0 c5 f5 z5 V5 T n K G L v]) X (k_count l D cI cZ cS cJ O k g a d w0 c5 f5 z5 V5 T n K G L v 1 (by omega)) (cwV 1 hts gL_isAhead_X6_count rfl rfl rfl (by decide +kernel) ⟨Nat.le_of_ble_eq_true rfl, Nat.le_of_ble_eq_true rfl⟩) hK hP hD hS hA 0 6 rfl rfl rfl hl.1 rfl (Nat.le_of_ble_eq_true rfl) dL_isAhead_542 ⟨Nat.le_of_ble_eq_true rfl, Nat.le_of_ble_eq_true rfl⟩ (fun u H locs hu hP hD hS => ?_)
  have hP : va_P D vwCl (List.flatten [clP cI cZ cS O k g a d w0 c5 f5 z5 V5 T n K G L v]) _ := hP
  have hD : va_D A (List.flatten [clP cI cZ cS O k g a d w0 c5 f5 z5 V5 T n K G L v]) := hD
  refine lv_eqi (y := sm (S5 0) 8) (by rw [hV5] <;> rfl) ?_
  refine lv_iload hx hb dL_isAhead_545 (lv_at hl 1 rfl) ?_
  refine lv_icmp_ne (tgt := 572) hx hb dL_isAhead_547 (by decide) (fun h => absurd (by rw [e25]) h) (fun _ => ?_)
  refine lv_aload_n hx hb dL_isAhead_550 rfl (lv_at hl 8 rfl) ?_
  refine lv_bipush (v := 6) hx hb dL_isAhead_551 (by decide) ?_
  refine kcallVJ (U := Unit) (As := [.int 6]) (rest := []) (Wr := []) (Wc := [clP cI cZ cS O k g a d w0 c5 f5 z5 V5 T n K G L v]) (Wo := fun u => [clP cI cZ cS O k g a d w0 c5 f5 z5 V5 T n K G L v]) X (k_count l D cI cZ cS cJ O k g a d w0 c5 f5 z5 V5 T n K G L v 6 (by omega)) (cwV 1 hts gL_isAhead_X6_count rfl rfl rfl (by decide +kernel) ⟨Nat.le_of_ble_eq_true rfl, Nat.le_of_ble_eq_true rfl⟩) hK hP hD hS hA 0 6 rfl rfl rfl hl.1 rfl (Nat.le_of_ble_eq_true rfl) dL_isAhead_553 ⟨Nat.le_of_ble_eq_true rfl, Nat.le_of_ble_eq_true rfl⟩ (fun u H locs hu hP hD hS => ?_)
  have hP : va_P D vwCl (List.flatten [clP cI cZ cS O k g a d w0 c5 f5 z5 V5 T n K G L v]) _ := hP
  have hD : va_D A (List.flatten [clP cI cZ cS O k g a d w0 c5 f5 z5 V5 T n K G L v]) := hD
  refine lv_eqi (y := sm (fun j => b1 (¬ S5 3 j = 0)) 7) (by rw [hV5] <;> rfl) ?_
  refine lv_iload hx hb dL_isAhead_556 (lv_at hl 0 rfl) ?_
  refine lv_icmp_ne (tgt := 572) hx hb dL_isAhead_558 (by decide) (fun h => absurd (by rw [e25]) h) (fun _ => ?_)
  refine lv_aload_n hx hb dL_isAhead_561 rfl (lv_at hl 8 rfl) ?_
  refine kcallVJ (U := Unit) (As := []) (rest := []) (Wr := []) (Wc := [clP cI cZ cS O k g a d w0 c5 f5 z5 V5 T n K G L v]) (Wo := fun u => [clP cI cZ cS O k g a d w0 c5 f5 (z5 - 1) (vput V5 (V5 z5)) T n K G L v]) X (k_undo l D cI cZ cS cJ O k g a d w0 c5 f5 z5 V5 T n K G L v hz5 hf5 hp5 (by rw [ht5]; exact hO)) (cwV 0 hts gL_isAhead_X6_undo rfl rfl rfl (by decide +kernel) ⟨Nat.le_of_ble_eq_true rfl, Nat.le_of_ble_eq_true rfl⟩) hK hP hD hS hA 0 6 rfl rfl rfl hl.1 rfl (Nat.le_of_ble_eq_true rfl) dL_isAhead_562 ⟨Nat.le_of_ble_eq_true rfl, Nat.le_of_ble_eq_true rfl⟩ (fun u H locs hu hP hD hS => ?_)
  have hP : va_P D vwCl (List.flatten [clP cI cZ cS O k g a d w0 c5 f5 (z5 - 1) (vput V5 (V5 z5)) T n K G L v]) _ := hP
  have hD : va_D A (List.flatten [clP cI cZ cS O k g a d w0 c5 f5 (z5 - 1) (vput V5 (V5 z5)) T n K G L v]) := hD
  refine lv_eqi (y := nI (z5 - 1)) (rfl) ?_
  refine lv_if_lt (tgt := 572) hx hb dL_isAhead_565 (by decide) (fun h => absurd h (nI_pos (by omega))) (fun _ => ?_)
  refine lv_iconst (v := 1) hx hb dL_isAhead_568 (by decide) ?_
  refine lv_goto (tgt := 573) hx hb dL_isAhead_569 (by decide) ?_
  refine lv_istore (lv' := [(6, .int 1), (16, .int (sm (fun j => b1 (¬ S2 3 j = 0)) 7)), (15, .int (sm (S2 0) 8)), (14, .int (sm (S2 6) 8)), (5, .int (sm (S 6) 8)), (3, .long (lkS S)), (2, .int (nI r)), (1, .int (nI j)), (0, .ref (O 0))]) hx hb dL_isAhead_573 hl (by decide) rfl (fun ls hl => ?_)
  exact kk c5 f5 (z5 - 1) (vput V5 (V5 z5)) K G L v (WI_back hw5 hp5 ht5) _ _ _ hP hD hS (lv_sub hl [0, 4, 5, 6, 7, 8] rfl)

set_option maxHeartbeats 4000000 in
set_option maxRecDepth 100000 in
theorem c_L_isAhead (l : Launch) (D : va_G) (cI cZ cS cJ : ClassId) (O k g a d : Nat → Nat) (w0 : Int32) (c : Nat → Nat → Nat) (f : Nat → Option Nat) (z : Nat) (V : Nat → Nat → Nat → Int32) (T : Nat → Int32) (n : Nat) (K G : Nat → Nat → Int32) (L : Nat → Int32) (v : Int32) (S S7 : Nat → Nat → Int32) (hO : OK S) (hw : WI S S7 c f z V) (j r : Nat) (hj : j < 8) (hr : r < 7) : CE (U := (Nat → Nat → Nat) × (Nat → Option Nat) × (Nat) × (Nat → Nat → Nat → Int32) × (Nat → Nat → Int32) × (Nat → Nat → Int32) × (Nat → Int32) × (Int32)) l yL_isAhead wsL_isAhead RM_isAhead D (tyL cI cZ cS cJ) [.ref (O 0), .int (nI j), .int (nI r)] (List.flatten [clP cI cZ cS O k g a d w0 c f z V T n K G L v]) (fun u => WI S S7 u.1 u.2.1 u.2.2.1 u.2.2.2.1) (fun _ => some (.int 1)) (fun u => List.flatten [clP cI cZ cS O k g a d w0 u.1 u.2.1 u.2.2.1 u.2.2.2.1 T n u.2.2.2.2.1 u.2.2.2.2.2.1 u.2.2.2.2.2.2.1 u.2.2.2.2.2.2.2]) 0 0 := by
  refine CE_int (cc := cL_isAhead) (maxL := 17) (rt := .boolean) (by decide) rfl (Nat.le_of_ble_eq_true rfl) (fun _ _ => rfl) ?_
  intro p e s m below meth cd A ls Q X hK hP hD hS hA hl hend
  have X : CallFix p m cd cL_isAhead 17 s (([.ref (O 0), .int (nI j), .int (nI r)] : List Value).toArray) wsL_isAhead RL := X
  obtain ⟨hx, hb, hml, hown, hts⟩ := id X
  obtain ⟨hz, hf, hV0, hV7⟩ := id hw
  have hOV : OK (V 0) := by rw [hV0]; exact hO
  have hl : lv_has ls 17 [(0, .ref (O 0)), (1, .int (nI j)), (2, .int (nI r))] := hl
  refine lv_aload_n hx hb dL_isAhead_0 rfl (lv_at hl 0 rfl) ?_
  refine kcallSJ (U := Unit) (As := [.ref (O 0)]) (rest := []) (Wr := []) (Wc := [clP cI cZ cS O k g a d w0 c f z V T n K G L v]) (Wo := fun _ => [clP cI cZ cS O k g a d w0 c f z V T n K G L v]) X (c_L_looks l D cI cZ cS cJ O k g a d w0 c f z V T n K G L v hOV) (va_cwS 1 hts gL_isAhead_L_looks rfl rfl rfl (by decide +kernel) ⟨Nat.le_of_ble_eq_true rfl, Nat.le_of_ble_eq_true rfl⟩) hK hP hD hS hA rfl hl.1 rfl (Nat.le_of_ble_eq_true rfl) dL_isAhead_1 ⟨Nat.le_of_ble_eq_true rfl, Nat.le_of_ble_eq_true rfl⟩ (fun u H locs hu hP hD hS => ?_)
  have hP : va_P D vwCl (List.flatten [clP cI cZ cS O k g a d w0 c f z V T n K G L v]) _ := hP
  have hD : va_D A (List.flatten [clP cI cZ cS O k g a d w0 c f z V T n K G L v]) := hD
  refine lv_eql (y := lkS S) (by rw [hV0]) ?_
  refine lv_lstore_n (lv' := [(3, .long (lkS S)), (0, .ref (O 0)), (1, .int (nI j)), (2, .int (nI r))]) hx hb dL_isAhead_4 rfl hl (by decide) rfl (fun ls hl => ?_)
  refine lv_aload_n hx hb dL_isAhead_5 rfl (lv_at hl 1 rfl) ?_
  refine lv_bipush (v := 9) hx hb dL_isAhead_6 (by decide) ?_
  refine kcallVJ (U := Unit) (As := [.int 9]) (rest := []) (Wr := []) (Wc := [clP cI cZ cS O k g a d w0 c f z V T n K G L v]) (Wo := fun u => [clP cI cZ cS O k g a d w0 c f z V T n K G L v]) X (k_count l D cI cZ cS cJ O k g a d w0 c f z V T n K G L v 9 (by omega)) (cwV 1 hts gL_isAhead_X6_count rfl rfl rfl (by decide +kernel) ⟨Nat.le_of_ble_eq_true rfl, Nat.le_of_ble_eq_true rfl⟩) hK hP hD hS hA 0 6 rfl rfl rfl hl.1 rfl (Nat.le_of_ble_eq_true rfl) dL_isAhead_8 ⟨Nat.le_of_ble_eq_true rfl, Nat.le_of_ble_eq_true rfl⟩ (fun u H locs hu hP hD hS => ?_)
  have hP : va_P D vwCl (List.flatten [clP cI cZ cS O k g a d w0 c f z V T n K G L v]) _ := hP
  have hD : va_D A (List.flatten [clP cI cZ cS O k g a d w0 c f z V T n K G L v]) := hD
  refine lv_eqi (y := sm (S 6) 8) (by rw [hV0] <;> rfl) ?_
  refine lv_istore (lv' := [(5, .int (sm (S 6) 8)), (3, .long (lkS S)), (0, .ref (O 0)), (1, .int (nI j)), (2, .int (nI r))]) hx hb dL_isAhead_11 hl (by decide) rfl (fun ls hl => ?_)
  refine lv_iconst (v := 1) hx hb dL_isAhead_13 (by decide) ?_
  refine lv_istore (lv' := [(6, .int 1), (5, .int (sm (S 6) 8)), (3, .long (lkS S)), (0, .ref (O 0)), (1, .int (nI j)), (2, .int (nI r))]) hx hb dL_isAhead_14 hl (by decide) rfl (fun ls hl => ?_)
  refine ah_1 l D cI cZ cS cJ X hK hA O k g a d w0 c f z V T n K G L v S S7 hO hw j r hj hr (fun ca fa za Va Ka Ga La va hwa H locs ls hP hD hS hl => ?_) _ _ _ hP hD hS (lv_sub hl [0, 1, 2, 5, 4, 3] rfl)
  obtain ⟨hza, hfa, hV0a, hV7a⟩ := id hwa
  have hOVa : OK (Va 0) := by rw [hV0a]; exact hO
  have hP : va_P D vwCl (List.flatten [clP cI cZ cS O k g a d w0 ca fa za Va T n Ka Ga La va]) _ := hP
  have hD : va_D A (List.flatten [clP cI cZ cS O k g a d w0 ca fa za Va T n Ka Ga La va]) := hD
  have hl : lv_has ls 17 [(6, .int 1), (5, .int (sm (S 6) 8)), (3, .long (lkS S)), (2, .int (nI r)), (1, .int (nI j)), (0, .ref (O 0))] := hl
  refine ah_2 l D cI cZ cS cJ X hK hA O k g a d w0 ca fa za Va T n Ka Ga La va S S7 hO hwa j r hj hr (fun cb fb zb Vb Kb Gb Lb vb hwb H locs ls hP hD hS hl => ?_) _ _ _ hP hD hS (lv_sub hl [0, 1, 2, 3, 4, 5] rfl)
  obtain ⟨hzb, hfb, hV0b, hV7b⟩ := id hwb
  have hOVb : OK (Vb 0) := by rw [hV0b]; exact hO
  have hP : va_P D vwCl (List.flatten [clP cI cZ cS O k g a d w0 cb fb zb Vb T n Kb Gb Lb vb]) _ := hP
  have hD : va_D A (List.flatten [clP cI cZ cS O k g a d w0 cb fb zb Vb T n Kb Gb Lb vb]) := hD
  have hl : lv_has ls 17 [(6, .int 1), (5, .int (sm (S 6) 8)), (3, .long (lkS S)), (2, .int (nI r)), (1, .int (nI j)), (0, .ref (O 0))] := hl
  refine ah_3 l D cI cZ cS cJ X hK hA O k g a d w0 cb fb zb Vb T n Kb Gb Lb vb S S7 hO hwb j r hj hr (fun cq fq zq Vq Kq Gq Lq vq v9 hwq hv9 H locs ls hP hD hS hl => ?_) _ _ _ hP hD hS (lv_sub hl [0, 1, 2, 3, 4, 5] rfl)
  obtain ⟨hzq, hfq, hV0q, hV7q⟩ := id hwq
  have hOVq : OK (Vq 0) := by rw [hV0q]; exact hO
  have hP : va_P D vwCl (List.flatten [clP cI cZ cS O k g a d w0 cq fq zq Vq T n Kq Gq Lq vq]) _ := hP
  have hD : va_D A (List.flatten [clP cI cZ cS O k g a d w0 cq fq zq Vq T n Kq Gq Lq vq]) := hD
  have hl : lv_has ls 17 [(7, .int (sm (lks S) 8)), (12, .int v9), (11, .int (S 12 4)), (10, .int (sm (fun j => b1 (¬ S 3 j = 0)) 7)), (9, .int (S 12 0)), (8, .int (S 12 2)), (6, .int 1), (5, .int (sm (S 6) 8)), (3, .long (lkS S)), (2, .int (nI r)), (1, .int (nI j)), (0, .ref (O 0))] := hl
  refine ah_4 l D cI cZ cS cJ X hK hA O k g a d w0 cq fq zq Vq T n Kq Gq Lq vq S S7 hO hwq j r hj hr v9 hv9 (fun ce fe ze Ve Ke Ge Le ve hwe H locs ls hP hD hS hl => ?_) _ _ _ hP hD hS (lv_sub hl [0, 1, 2, 3, 4, 5, 6, 7, 8, 9, 10, 11] rfl)
  obtain ⟨hze, hfe, hV0e, hV7e⟩ := id hwe
  have hOVe : OK (Ve 0) := by rw [hV0e]; exact hO
  have hP : va_P D vwCl (List.flatten [clP cI cZ cS O k g a d w0 ce fe ze Ve T n Ke Ge Le ve]) _ := hP
  have hD : va_D A (List.flatten [clP cI cZ cS O k g a d w0 ce fe ze Ve T n Ke Ge Le ve]) := hD
  have hl : lv_has ls 17 [(6, .int 1), (5, .int (sm (S 6) 8)), (3, .long (lkS S)), (2, .int (nI r)), (1, .int (nI j)), (0, .ref (O 0))] := hl
  refine ah_5 l D cI cZ cS cJ X hK hA O k g a d w0 ce fe ze Ve T n Ke Ge Le ve S S7 hO hwe j r hj hr (fun ci fi zi Vi Ki Gi Li vi hwi H locs ls hP hD hS hl => ?_) _ _ _ hP hD hS (lv_sub hl [0, 1, 2, 3, 4, 5] rfl)
  obtain ⟨hzi, hfi, hV0i, hV7i⟩ := id hwi
  have hOVi : OK (Vi 0) := by rw [hV0i]; exact hO
  have hP : va_P D vwCl (List.flatten [clP cI cZ cS O k g a d w0 ci fi zi Vi T n Ki Gi Li vi]) _ := hP
  have hD : va_D A (List.flatten [clP cI cZ cS O k g a d w0 ci fi zi Vi T n Ki Gi Li vi]) := hD
  have hl : lv_has ls 17 [(6, .int 1), (5, .int (sm (S 6) 8)), (3, .long (lkS S)), (2, .int (nI r)), (1, .int (nI j)), (0, .ref (O 0))] := hl
  refine ah_6 l D cI cZ cS cJ X hK hA O k g a d w0 ci fi zi Vi T n Ki Gi Li vi S S7 hO hwi j r hj hr (fun co fo zo Vo Ko Go Lo vo hwo H locs ls hP hD hS hl => ?_) _ _ _ hP hD hS (lv_sub hl [0, 1, 2, 3, 4, 5] rfl)
  obtain ⟨hzo, hfo, hV0o, hV7o⟩ := id hwo
  have hOVo : OK (Vo 0) := by rw [hV0o]; exact hO
  have hP : va_P D vwCl (List.flatten [clP cI cZ cS O k g a d w0 co fo zo Vo T n Ko Go Lo vo]) _ := hP
  have hD : va_D A (List.flatten [clP cI cZ cS O k g a d w0 co fo zo Vo T n Ko Go Lo vo]) := hD
  have hl : lv_has ls 17 [(6, .int 1), (5, .int (sm (S 6) 8)), (3, .long (lkS S)), (2, .int (nI r)), (1, .int (nI j)), (0, .ref (O 0))] := hl
  refine lv_iload hx hb dL_isAhead_575 (lv_at hl 0 rfl) ?_
  refine lv_if_eq (tgt := 593) hx hb dL_isAhead_577 (by decide) (fun h => absurd h (by decide)) (fun _ => ?_)
  refine lv_aload_n hx hb dL_isAhead_580 rfl (lv_at hl 5 rfl) ?_
  refine kcallSJ (U := Unit) (As := [.ref (O 0)]) (rest := []) (Wr := []) (Wc := [clP cI cZ cS O k g a d w0 co fo zo Vo T n Ko Go Lo vo]) (Wo := fun _ => [clP cI cZ cS O k g a d w0 co fo zo Vo T n Ko Go Lo vo]) X (c_L_looks l D cI cZ cS cJ O k g a d w0 co fo zo Vo T n Ko Go Lo vo hOVo) (va_cwS 1 hts gL_isAhead_L_looks rfl rfl rfl (by decide +kernel) ⟨Nat.le_of_ble_eq_true rfl, Nat.le_of_ble_eq_true rfl⟩) hK hP hD hS hA rfl hl.1 rfl (Nat.le_of_ble_eq_true rfl) dL_isAhead_581 ⟨Nat.le_of_ble_eq_true rfl, Nat.le_of_ble_eq_true rfl⟩ (fun u H locs hu hP hD hS => ?_)
  have hP : va_P D vwCl (List.flatten [clP cI cZ cS O k g a d w0 co fo zo Vo T n Ko Go Lo vo]) _ := hP
  have hD : va_D A (List.flatten [clP cI cZ cS O k g a d w0 co fo zo Vo T n Ko Go Lo vo]) := hD
  refine lv_eql (y := lkS S) (by rw [hV0o]) ?_
  refine lv_lload_n hx hb dL_isAhead_584 rfl (lv_at hl 2 rfl) ?_
  refine W.lcmp hx hb dL_isAhead_585 ?_
  refine lv_if_ne (tgt := 593) hx hb dL_isAhead_586 (by decide) (fun h => absurd (lg_same _) h) (fun _ => ?_)
  refine lv_iconst (v := 1) hx hb dL_isAhead_589 (by decide) ?_
  refine lv_goto (tgt := 594) hx hb dL_isAhead_590 (by decide) ?_
  exact hend (co, fo, zo, Vo, Ko, Go, Lo, vo) 1 _ _ _ _ hwo rfl hP hD hS dL_isAhead_594

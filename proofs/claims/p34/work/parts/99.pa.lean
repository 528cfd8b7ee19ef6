/-! the law's turns -/
theorem sz_a {z z1 : Nat} (hz : z ≤ 6) (c : 6 ≤ z) (h : savZ z = z1) : (6 : Int32) = nI z1 := by
  have e : z = 6 := by omega
  subst e
  rw [← h]
  rfl
theorem sz_b {z z1 : Nat} (c : z < 6) (h : savZ z = z1) : nI (z + 1) = nI z1 := by
  rw [← h, show savZ z = z + 1 from if_pos c]
theorem WI_keep {S S7 : Nat → Nat → Int32} {c : Nat → Nat → Nat} {f : Nat → Option Nat} {z : Nat} {V : Nat → Nat → Nat → Int32} (h : WI S S7 c f z V) : WI S S c f z (vkeep V) := by
  obtain ⟨hz, hf, h0, h7⟩ := h
  exact ⟨hz, hf, (if_neg (by decide) : vkeep V 0 = V 0).trans h0, (if_pos rfl : vkeep V 7 = V 0).trans h0⟩
/-- what the law needs of the share lost -/
def FLS : Prop := ∀ (t : Nat) (S : Nat → Nat → Int32), t ≤ 60 → GD t S → LSF S

set_option maxHeartbeats 4000000 in
set_option maxRecDepth 100000 in
theorem lw_1 {p : Program} {e : Env} {s : State} {m : MethodId} {args : Array Value} {below : List Frame} {meth : Method} {cd : Code} {Q : State → Prop} {A : Nat → Prop} (l : Launch) (D : va_G) (cI cZ cS cJ : ClassId) (X : CallFix p m cd cL_law 13 s args wsL_law RL) (hK : va_K D vwCl (tyL cI cZ cS cJ) s) (hA : ∀ q, s.heap.size ≤ q → A q) (O k g a d : Nat → Nat) {b Lx : Nat} {xs : Nat → Int32} (hX : va_X b Lx xs s s.heap) (hbl : b < s.heap.size) (hbA : ¬ A b) (hLx : Lx ≤ 260) (T : Nat → Int32) (n : Nat) (c : Nat → Nat → Nat) (f : Nat → Option Nat) (z : Nat) (V : Nat → Nat → Nat → Int32) (K G : Nat → Nat → Int32) (L : Nat → Int32) (v : Int32) (S S7 : Nat → Nat → Int32) (t : Nat) (ht : t < 1000) (hPD : PD t S) (hPD7 : PD t S7) (hO : OK S) (hO7 : OK S7) (hw : WI S S7 c f z V) (kk : ∀ (x y : Int32) (S1 : Nat → Nat → Int32) (c : Nat → Nat → Nat) (f : Nat → Option Nat) (z : Nat) (V : Nat → Nat → Nat → Int32) (K G : Nat → Nat → Int32) (L : Nat → Int32) (v : Int32) (_ : WI S1 S7 c f z V) (_ : PD (t + 1) S1) (H : Heap) (locs : List Loc) (ls : Array Slot), va_P D vwCl (List.flatten [clP cI cZ cS O k g a d 1 c f z V T n K G L v]) H → va_D A (List.flatten [clP cI cZ cS O k g a d 1 c f z V T n K G L v]) → va_S A s.heap H locs → lv_has ls 13 [(5, .int y), (4, .int x), (3, .int (nI t)), (2, .int 1), (1, .ref (O 0)), (0, .ref b)] → W p l e room_1 s m args below meth cd H locs 143 1424 Q (F0 m 193 ls [])) (H : Heap) (locs : List Loc) (ls : Array Slot) (hP : va_P D vwCl (List.flatten [clP cI cZ cS O k g a d 1 c f z V T n K G L v]) H) (hD : va_D A (List.flatten [clP cI cZ cS O k g a d 1 c f z V T n K G L v])) (hS : va_S A s.heap H locs) (hl : lv_has ls 13 [(3, .int (nI t)), (2, .int 1), (1, .ref (O 0)), (0, .ref b)]) : W p l e room_1 s m args below meth cd H locs 143 1424 Q (F0 m 40 ls []) := by
  obtain ⟨hx, hb, hml, hown, hts⟩ := id X
  obtain ⟨hz, hf, hV0, hV7⟩ := id hw
  have hOV : OK (V 0) := by rw [hV0]; exact hO
  refine lv_aload_n hx hb dL_law_40 rfl (lv_at hl 3 rfl) ?_
  refine lv_iconst (v := 2) hx hb dL_law_41 (by decide) ?_
  refine lv_iload_n hx hb dL_law_42 rfl (lv_at hl 0 rfl) ?_
  refine lv_imul hx hb dL_law_43 ?_
  refine lv_eqi (y := nI (2 * t)) (pk_mul _ _) ?_
  refine kcallX (As := [.ref b, .int (nI (2 * t))]) (rest := []) (Wr := [clP cI cZ cS O k g a d 1 c f z V T n K G L v]) X (c_L_cell l D (tyL cI cZ cS cJ) b Lx xs (2 * t) (by omega) (by omega)) (va_cwS 2 hts gL_law_L_cell rfl rfl rfl (by decide +kernel) ⟨Nat.le_of_ble_eq_true rfl, Nat.le_of_ble_eq_true rfl⟩) hX hbl hbA hK hP hD hS hA rfl hl.1 rfl (Nat.le_of_ble_eq_true rfl) dL_law_44 ⟨Nat.le_of_ble_eq_true rfl, Nat.le_of_ble_eq_true rfl⟩ (fun H locs hP hD hS => ?_)
  have hP : va_P D vwCl (List.flatten [clP cI cZ cS O k g a d 1 c f z V T n K G L v]) _ := hP
  have hD : va_D A (List.flatten [clP cI cZ cS O k g a d 1 c f z V T n K G L v]) := hD
  generalize cellV Lx xs (2 * t) = x
  refine lv_istore (lv' := [(4, .int x), (3, .int (nI t)), (2, .int 1), (1, .ref (O 0)), (0, .ref b)]) hx hb dL_law_47 hl (by decide) rfl (fun ls hl => ?_)
  refine lv_aload_n hx hb dL_law_49 rfl (lv_at hl 4 rfl) ?_
  refine lv_iconst (v := 2) hx hb dL_law_50 (by decide) ?_
  refine lv_iload_n hx hb dL_law_51 rfl (lv_at hl 1 rfl) ?_
  refine lv_imul hx hb dL_law_52 ?_
  refine lv_eqi (y := nI (2 * t)) (pk_mul _ _) ?_
  refine lv_iconst (v := 1) hx hb dL_law_53 (by decide) ?_
  refine lv_iadd hx hb dL_law_54 ?_
  refine lv_eqi (y := nI ((2 * t) + 1)) (nI_add _ _) ?_
  refine kcallX (As := [.ref b, .int (nI ((2 * t) + 1))]) (rest := []) (Wr := [clP cI cZ cS O k g a d 1 c f z V T n K G L v]) X (c_L_cell l D (tyL cI cZ cS cJ) b Lx xs ((2 * t) + 1) (by omega) (by omega)) (va_cwS 2 hts gL_law_L_cell rfl rfl rfl (by decide +kernel) ⟨Nat.le_of_ble_eq_true rfl, Nat.le_of_ble_eq_true rfl⟩) hX hbl hbA hK hP hD hS hA rfl hl.1 rfl (Nat.le_of_ble_eq_true rfl) dL_law_55 ⟨Nat.le_of_ble_eq_true rfl, Nat.le_of_ble_eq_true rfl⟩ (fun H locs hP hD hS => ?_)
  have hP : va_P D vwCl (List.flatten [clP cI cZ cS O k g a d 1 c f z V T n K G L v]) _ := hP
  have hD : va_D A (List.flatten [clP cI cZ cS O k g a d 1 c f z V T n K G L v]) := hD
  generalize cellV Lx xs ((2 * t) + 1) = y
  refine lv_istore (lv' := [(5, .int y), (4, .int x), (3, .int (nI t)), (2, .int 1), (1, .ref (O 0)), (0, .ref b)]) hx hb dL_law_58 hl (by decide) rfl (fun ls hl => ?_)
  obtain ⟨S1, g1, hA1⟩ : ∃ S9 r9, acP (upN x 20) y S S7 = (S9, r9) := ⟨_, _, rfl⟩
  have hD1 : PD (t + 1) S1 := by
    have h9 := PD_ac (q := upN x 20) (y := y) ht hPD hPD7
    rw [hA1] at h9
    exact h9
  have hO1 : OK S1 := hD1.1.1
  refine lv_aload_n hx hb dL_law_60 rfl (lv_at hl 4 rfl) ?_
  refine kcallSJ (U := Unit) (As := [.ref (O 0)]) (rest := []) (Wr := []) (Wc := [clP cI cZ cS O k g a d 1 c f z V T n K G L v]) (Wo := fun u => [clP cI cZ cS O k g a d 1 c f z V T n K G L v]) X (c_L_looks l D cI cZ cS cJ O k g a d 1 c f z V T n K G L v hOV) (va_cwS 1 hts gL_law_L_looks rfl rfl rfl (by decide +kernel) ⟨Nat.le_of_ble_eq_true rfl, Nat.le_of_ble_eq_true rfl⟩) hK hP hD hS hA rfl hl.1 rfl (Nat.le_of_ble_eq_true rfl) dL_law_61 ⟨Nat.le_of_ble_eq_true rfl, Nat.le_of_ble_eq_true rfl⟩ (fun u H locs hu hP hD hS => ?_)
  have hP : va_P D vwCl (List.flatten [clP cI cZ cS O k g a d 1 c f z V T n K G L v]) _ := hP
  have hD : va_D A (List.flatten [clP cI cZ cS O k g a d 1 c f z V T n K G L v]) := hD
  refine lv_eql (y := lkS S) (by rw [hV0]) ?_
  refine lv_lstore (lv' := [(6, .long (lkS S)), (5, .int y), (4, .int x), (3, .int (nI t)), (2, .int 1), (1, .ref (O 0)), (0, .ref b)]) hx hb dL_law_64 hl (by decide) rfl (fun ls hl => ?_)
  refine lv_aload_n hx hb dL_law_66 rfl (lv_at hl 5 rfl) ?_
  refine lv_bipush (v := 14) hx hb dL_law_67 (by decide) ?_
  refine kcallVJ (U := Unit) (As := [.int 14]) (rest := []) (Wr := []) (Wc := [clP cI cZ cS O k g a d 1 c f z V T n K G L v]) (Wo := fun u => [clP cI cZ cS O k g a d 1 c f z V T n K G L v]) X (k_count l D cI cZ cS cJ O k g a d 1 c f z V T n K G L v 14 (by omega)) (cwV 1 hts gL_law_X6_count rfl rfl rfl (by decide +kernel) ⟨Nat.le_of_ble_eq_true rfl, Nat.le_of_ble_eq_true rfl⟩) hK hP hD hS hA 0 6 rfl rfl rfl hl.1 rfl (Nat.le_of_ble_eq_true rfl) dL_law_69 ⟨Nat.le_of_ble_eq_true rfl, Nat.le_of_ble_eq_true rfl⟩ (fun u H locs hu hP hD hS => ?_)
  have hP : va_P D vwCl (List.flatten [clP cI cZ cS O k g a d 1 c f z V T n K G L v]) _ := hP
  have hD : va_D A (List.flatten [clP cI cZ cS O k g a d 1 c f z V T n K G L v]) := hD
  refine lv_eqi (y := nI z) (rfl) ?_
  refine lv_istore (lv' := [(8, .int (nI z)), (6, .long (lkS S)), (5, .int y), (4, .int x), (3, .int (nI t)), (2, .int 1), (1, .ref (O 0)), (0, .ref b)]) hx hb dL_law_72 hl (by decide) rfl (fun ls hl => ?_)
  refine lv_aload_n hx hb dL_law_74 rfl (lv_at hl 6 rfl) ?_
  refine lv_iload hx hb dL_law_75 (lv_at hl 3 rfl) ?_
  refine lv_iload hx hb dL_law_77 (lv_at hl 2 rfl) ?_
  refine kcallSJ (U := Unit) (As := [.ref (O 0), .int x, .int y]) (rest := []) (Wr := []) (Wc := [clP cI cZ cS O k g a d 1 c f z V T n K G L v]) (Wo := fun u => [clP cI cZ cS O k g a d 1 (cN c z) (fN f z) (savZ z) (vput (savV V z) (acP (upN x 20) y (V 0) (V 7)).1) T n K G L v]) X (c_L_act l D cI cZ cS cJ O k g a d 1 c f z V T n K G L v x y (upN x 20) rfl hz hf hOV (by decide) (by rw [hV7]; exact hO7)) (va_cwS 3 hts gL_law_L_act rfl rfl rfl (by decide +kernel) ⟨Nat.le_of_ble_eq_true rfl, Nat.le_of_ble_eq_true rfl⟩) hK hP hD hS hA rfl hl.1 rfl (Nat.le_of_ble_eq_true rfl) dL_law_79 ⟨Nat.le_of_ble_eq_true rfl, Nat.le_of_ble_eq_true rfl⟩ (fun u H locs hu hP hD hS => ?_)
  have hP : va_P D vwCl (List.flatten [clP cI cZ cS O k g a d 1 (cN c z) (fN f z) (savZ z) (vput (savV V z) (acP (upN x 20) y (V 0) (V 7)).1) T n K G L v]) _ := hP
  have hD : va_D A (List.flatten [clP cI cZ cS O k g a d 1 (cN c z) (fN f z) (savZ z) (vput (savV V z) (acP (upN x 20) y (V 0) (V 7)).1) T n K G L v]) := hD
  refine lv_eqi (y := g1) (by rw [hV0, hV7, hA1]) ?_
  have hB1 : (acP (upN x 20) y (V 0) (V 7)).1 = S1 := by rw [hV0, hV7, hA1]
  rw [hB1] at hP hD
  have hw1 := WI_save (S' := S1) hw
  have ht1 := (sv_top (V := V) (z := z) (S := S1) hz).trans hV0
  have hp1 := savZ_0 z
  generalize vput (savV V z) S1 = V1 at hP hD hw1 ht1
  generalize cN c z = c1 at hP hD hw1
  generalize fN f z = f1 at hP hD hw1
  generalize hzz1 : savZ z = z1 at hP hD hw1 ht1 hp1
  obtain ⟨hz1, hf1, hV1, hV71⟩ := id hw1
  have hOV1 : OK (V1 0) := by rw [hV1]; exact hO1
  have hP : va_P D vwCl (List.flatten [clP cI cZ cS O k g a d 1 c1 f1 z1 V1 T n K G L v]) _ := hP
  have hD : va_D A (List.flatten [clP cI cZ cS O k g a d 1 c1 f1 z1 V1 T n K G L v]) := hD
  refine lv_istore (lv' := [(9, .int g1), (8, .int (nI z)), (6, .long (lkS S)), (5, .int y), (4, .int x), (3, .int (nI t)), (2, .int 1), (1, .ref (O 0)), (0, .ref b)]) hx hb dL_law_82 hl (by decide) rfl (fun ls hl => ?_)
  refine lv_aload_n hx hb dL_law_84 rfl (lv_at hl 7 rfl) ?_
  refine lv_bipush (v := 14) hx hb dL_law_85 (by decide) ?_
  refine kcallVJ (U := Unit) (As := [.int 14]) (rest := []) (Wr := []) (Wc := [clP cI cZ cS O k g a d 1 c1 f1 z1 V1 T n K G L v]) (Wo := fun u => [clP cI cZ cS O k g a d 1 c1 f1 z1 V1 T n K G L v]) X (k_count l D cI cZ cS cJ O k g a d 1 c1 f1 z1 V1 T n K G L v 14 (by omega)) (cwV 1 hts gL_law_X6_count rfl rfl rfl (by decide +kernel) ⟨Nat.le_of_ble_eq_true rfl, Nat.le_of_ble_eq_true rfl⟩) hK hP hD hS hA 0 6 rfl rfl rfl hl.1 rfl (Nat.le_of_ble_eq_true rfl) dL_law_87 ⟨Nat.le_of_ble_eq_true rfl, Nat.le_of_ble_eq_true rfl⟩ (fun u H locs hu hP hD hS => ?_)
  have hP : va_P D vwCl (List.flatten [clP cI cZ cS O k g a d 1 c1 f1 z1 V1 T n K G L v]) _ := hP
  have hD : va_D A (List.flatten [clP cI cZ cS O k g a d 1 c1 f1 z1 V1 T n K G L v]) := hD
  refine lv_eqi (y := nI z1) (rfl) ?_
  refine lv_iload hx hb dL_law_90 (lv_at hl 1 rfl) ?_
  refine lv_bipush (v := 6) hx hb dL_law_92 (by decide) ?_
  have jn94 : W p l e room_1 s m args below meth cd H locs 143 1424 Q (F0 m 106 ls [.int (nI z1), .int (nI z1)]) := by
    refine lv_icmp_ne (tgt := 113) hx hb dL_law_106 (by decide) (fun h => absurd rfl h) (fun _ => ?_)
    refine lv_iconst (v := 1) hx hb dL_law_109 (by decide) ?_
    refine lv_goto (tgt := 114) hx hb dL_law_110 (by decide) ?_
    refine lv_istore_n (lv' := [(2, .int 1), (9, .int g1), (8, .int (nI z)), (6, .long (lkS S)), (5, .int y), (4, .int x), (3, .int (nI t)), (1, .ref (O 0)), (0, .ref b)]) hx hb dL_law_114 rfl hl (by decide) rfl (fun ls hl => ?_)
    refine lv_iload_n hx hb dL_law_115 rfl (lv_at hl 0 rfl) ?_
    refine lv_if_eq (tgt := 193) hx hb dL_law_116 (by decide) (fun h => absurd h (by decide)) (fun _ => ?_)
    refine lv_iload hx hb dL_law_119 (lv_at hl 5 rfl) ?_
    refine lv_bipush (v := 8) hx hb dL_law_121 (by decide) ?_
    refine lv_ishr hx hb dL_law_123 ?_
    refine lv_eqi (y := sh9 x 8) rfl ?_
    refine lv_iconst (v := 3) hx hb dL_law_124 (by decide) ?_
    refine lv_iand hx hb dL_law_125 ?_
    refine lv_if_ne (tgt := 193) hx hb dL_law_126 (by decide) (fun c126 => ?_) (fun c126 => ?_)
    · skip
      exact kk x y S1 c1 f1 z1 V1 K G L v hw1 hD1 _ _ _ hP hD hS (lv_sub hl [4, 5, 6, 0, 7, 8] rfl)
    · skip
      refine lv_aload_n hx hb dL_law_129 rfl (lv_at hl 7 rfl) ?_
      refine kcallSJ (U := Unit) (As := [.ref (O 0)]) (rest := []) (Wr := []) (Wc := [clP cI cZ cS O k g a d 1 c1 f1 z1 V1 T n K G L v]) (Wo := fun u => [clP cI cZ cS O k g a d 1 c1 f1 z1 V1 T n K G L v]) X (c_L_looks l D cI cZ cS cJ O k g a d 1 c1 f1 z1 V1 T n K G L v hOV1) (va_cwS 1 hts gL_law_L_looks rfl rfl rfl (by decide +kernel) ⟨Nat.le_of_ble_eq_true rfl, Nat.le_of_ble_eq_true rfl⟩) hK hP hD hS hA rfl hl.1 rfl (Nat.le_of_ble_eq_true rfl) dL_law_130 ⟨Nat.le_of_ble_eq_true rfl, Nat.le_of_ble_eq_true rfl⟩ (fun u H locs hu hP hD hS => ?_)
      have hP : va_P D vwCl (List.flatten [clP cI cZ cS O k g a d 1 c1 f1 z1 V1 T n K G L v]) _ := hP
      have hD : va_D A (List.flatten [clP cI cZ cS O k g a d 1 c1 f1 z1 V1 T n K G L v]) := hD
      refine lv_eql (y := lkS S1) (by rw [hV1]) ?_
      refine lv_lstore (lv' := [(10, .long (lkS S1)), (2, .int 1), (9, .int g1), (8, .int (nI z)), (6, .long (lkS S)), (5, .int y), (4, .int x), (3, .int (nI t)), (1, .ref (O 0)), (0, .ref b)]) hx hb dL_law_133 hl (by decide) rfl (fun ls hl => ?_)
      refine lv_aload_n hx hb dL_law_135 rfl (lv_at hl 8 rfl) ?_
      refine lv_bipush (v := 14) hx hb dL_law_136 (by decide) ?_
      refine kcallVJ (U := Unit) (As := [.int 14]) (rest := []) (Wr := []) (Wc := [clP cI cZ cS O k g a d 1 c1 f1 z1 V1 T n K G L v]) (Wo := fun u => [clP cI cZ cS O k g a d 1 c1 f1 z1 V1 T n K G L v]) X (k_count l D cI cZ cS cJ O k g a d 1 c1 f1 z1 V1 T n K G L v 14 (by omega)) (cwV 1 hts gL_law_X6_count rfl rfl rfl (by decide +kernel) ⟨Nat.le_of_ble_eq_true rfl, Nat.le_of_ble_eq_true rfl⟩) hK hP hD hS hA 0 6 rfl rfl rfl hl.1 rfl (Nat.le_of_ble_eq_true rfl) dL_law_138 ⟨Nat.le_of_ble_eq_true rfl, Nat.le_of_ble_eq_true rfl⟩ (fun u H locs hu hP hD hS => ?_)
      have hP : va_P D vwCl (List.flatten [clP cI cZ cS O k g a d 1 c1 f1 z1 V1 T n K G L v]) _ := hP
      have hD : va_D A (List.flatten [clP cI cZ cS O k g a d 1 c1 f1 z1 V1 T n K G L v]) := hD
      refine lv_eqi (y := nI z1) (rfl) ?_
      refine lv_iconst (v := 1) hx hb dL_law_141 (by decide) ?_
      refine lv_isub hx hb dL_law_142 ?_
      refine lv_eqi (y := nI (z1 - 1)) (pk_sub (a := z1) (b := 1) (by omega)) ?_
      refine lv_istore (lv' := [(12, .int (nI (z1 - 1))), (10, .long (lkS S1)), (2, .int 1), (9, .int g1), (8, .int (nI z)), (6, .long (lkS S)), (5, .int y), (4, .int x), (3, .int (nI t)), (1, .ref (O 0)), (0, .ref b)]) hx hb dL_law_143 hl (by decide) rfl (fun ls hl => ?_)
      refine lv_aload_n hx hb dL_law_145 rfl (lv_at hl 9 rfl) ?_
      refine kcallVJ (U := Unit) (As := []) (rest := []) (Wr := []) (Wc := [clP cI cZ cS O k g a d 1 c1 f1 z1 V1 T n K G L v]) (Wo := fun u => [clP cI cZ cS O k g a d 1 c1 f1 (z1 - 1) (vput V1 (V1 z1)) T n K G L v]) X (k_undo l D cI cZ cS cJ O k g a d 1 c1 f1 z1 V1 T n K G L v hz1 hf1 hp1 (by rw [ht1]; exact hO)) (cwV 0 hts gL_law_X6_undo rfl rfl rfl (by decide +kernel) ⟨Nat.le_of_ble_eq_true rfl, Nat.le_of_ble_eq_true rfl⟩) hK hP hD hS hA 0 6 rfl rfl rfl hl.1 rfl (Nat.le_of_ble_eq_true rfl) dL_law_146 ⟨Nat.le_of_ble_eq_true rfl, Nat.le_of_ble_eq_true rfl⟩ (fun u H locs hu hP hD hS => ?_)
      have hP : va_P D vwCl (List.flatten [clP cI cZ cS O k g a d 1 c1 f1 (z1 - 1) (vput V1 (V1 z1)) T n K G L v]) _ := hP
      have hD : va_D A (List.flatten [clP cI cZ cS O k g a d 1 c1 f1 (z1 - 1) (vput V1 (V1 z1)) T n K G L v]) := hD
      refine lv_eqi (y := nI (z1 - 1)) (rfl) ?_
      have hwb := WI_back hw1 hp1 ht1
      generalize hVq : vput V1 (V1 z1) = Vb at hP hD hwb
      generalize hzq : z1 - 1 = zb at hP hD hl hwb ⊢
      obtain ⟨hzb, hfb, hVb, hV7b⟩ := id hwb
      have hOVb : OK (Vb 0) := by rw [hVb]; exact hO
      have hP : va_P D vwCl (List.flatten [clP cI cZ cS O k g a d 1 c1 f1 zb Vb T n K G L v]) _ := hP
      have hD : va_D A (List.flatten [clP cI cZ cS O k g a d 1 c1 f1 zb Vb T n K G L v]) := hD
      have hl : lv_has ls 13 [(12, .int (nI (zb))), (10, .long (lkS S1)), (2, .int 1), (9, .int g1), (8, .int (nI z)), (6, .long (lkS S)), (5, .int y), (4, .int x), (3, .int (nI t)), (1, .ref (O 0)), (0, .ref b)] := hl
      refine lv_iload hx hb dL_law_149 (lv_at hl 0 rfl) ?_
      refine lv_icmp_ne (tgt := 191) hx hb dL_law_151 (by decide) (fun h => absurd rfl h) (fun _ => ?_)
      refine lv_aload_n hx hb dL_law_154 rfl (lv_at hl 9 rfl) ?_
      refine kcallSJ (U := Unit) (As := [.ref (O 0)]) (rest := []) (Wr := []) (Wc := [clP cI cZ cS O k g a d 1 c1 f1 zb Vb T n K G L v]) (Wo := fun u => [clP cI cZ cS O k g a d 1 c1 f1 zb Vb T n K G L v]) X (c_L_looks l D cI cZ cS cJ O k g a d 1 c1 f1 zb Vb T n K G L v hOVb) (va_cwS 1 hts gL_law_L_looks rfl rfl rfl (by decide +kernel) ⟨Nat.le_of_ble_eq_true rfl, Nat.le_of_ble_eq_true rfl⟩) hK hP hD hS hA rfl hl.1 rfl (Nat.le_of_ble_eq_true rfl) dL_law_155 ⟨Nat.le_of_ble_eq_true rfl, Nat.le_of_ble_eq_true rfl⟩ (fun u H locs hu hP hD hS => ?_)
      have hP : va_P D vwCl (List.flatten [clP cI cZ cS O k g a d 1 c1 f1 zb Vb T n K G L v]) _ := hP
      have hD : va_D A (List.flatten [clP cI cZ cS O k g a d 1 c1 f1 zb Vb T n K G L v]) := hD
      refine lv_eql (y := lkS S) (by rw [hVb]) ?_
      refine lv_lload hx hb dL_law_158 (lv_at hl 5 rfl) ?_
      refine W.lcmp hx hb dL_law_160 ?_
      refine lv_if_ne (tgt := 191) hx hb dL_law_161 (by decide) (fun h => absurd (lg_same _) h) (fun _ => ?_)
      refine lv_aload_n hx hb dL_law_164 rfl (lv_at hl 9 rfl) ?_
      refine lv_iload hx hb dL_law_165 (lv_at hl 7 rfl) ?_
      refine lv_iload hx hb dL_law_167 (lv_at hl 6 rfl) ?_
      refine kcallSJ (U := Unit) (As := [.ref (O 0), .int x, .int y]) (rest := []) (Wr := []) (Wc := [clP cI cZ cS O k g a d 1 c1 f1 zb Vb T n K G L v]) (Wo := fun u => [clP cI cZ cS O k g a d 1 (cN c1 zb) (fN f1 zb) (savZ zb) (vput (savV Vb zb) (acP (upN x 20) y (Vb 0) (Vb 7)).1) T n K G L v]) X (c_L_act l D cI cZ cS cJ O k g a d 1 c1 f1 zb Vb T n K G L v x y (upN x 20) rfl hzb hfb hOVb (by decide) (by rw [hV7b]; exact hO7)) (va_cwS 3 hts gL_law_L_act rfl rfl rfl (by decide +kernel) ⟨Nat.le_of_ble_eq_true rfl, Nat.le_of_ble_eq_true rfl⟩) hK hP hD hS hA rfl hl.1 rfl (Nat.le_of_ble_eq_true rfl) dL_law_169 ⟨Nat.le_of_ble_eq_true rfl, Nat.le_of_ble_eq_true rfl⟩ (fun u H locs hu hP hD hS => ?_)
      have hP : va_P D vwCl (List.flatten [clP cI cZ cS O k g a d 1 (cN c1 zb) (fN f1 zb) (savZ zb) (vput (savV Vb zb) (acP (upN x 20) y (Vb 0) (Vb 7)).1) T n K G L v]) _ := hP
      have hD : va_D A (List.flatten [clP cI cZ cS O k g a d 1 (cN c1 zb) (fN f1 zb) (savZ zb) (vput (savV Vb zb) (acP (upN x 20) y (Vb 0) (Vb 7)).1) T n K G L v]) := hD
      refine lv_eqi (y := g1) (by rw [hVb, hV7b, hA1]) ?_
      have hB2 : (acP (upN x 20) y (Vb 0) (Vb 7)).1 = S1 := by rw [hVb, hV7b, hA1]
      rw [hB2] at hP hD
      have hw2 := WI_save (S' := S1) hwb
      have ht2 := (sv_top (V := Vb) (z := zb) (S := S1) hzb).trans hVb
      have hp2 := savZ_0 zb
      generalize vput (savV Vb zb) S1 = V2 at hP hD hw2 ht2
      generalize cN c1 zb = c2 at hP hD hw2
      generalize fN f1 zb = f2 at hP hD hw2
      generalize hzz2 : savZ zb = z2 at hP hD hw2 ht2 hp2
      obtain ⟨hz2, hf2, hV2, hV72⟩ := id hw2
      have hOV2 : OK (V2 0) := by rw [hV2]; exact hO1
      have hP : va_P D vwCl (List.flatten [clP cI cZ cS O k g a d 1 c2 f2 z2 V2 T n K G L v]) _ := hP
      have hD : va_D A (List.flatten [clP cI cZ cS O k g a d 1 c2 f2 z2 V2 T n K G L v]) := hD
      refine lv_iload hx hb dL_law_172 (lv_at hl 3 rfl) ?_
      refine lv_icmp_ne (tgt := 191) hx hb dL_law_174 (by decide) (fun h => absurd rfl h) (fun _ => ?_)
      refine lv_aload_n hx hb dL_law_177 rfl (lv_at hl 9 rfl) ?_
      refine kcallSJ (U := Unit) (As := [.ref (O 0)]) (rest := []) (Wr := []) (Wc := [clP cI cZ cS O k g a d 1 c2 f2 z2 V2 T n K G L v]) (Wo := fun u => [clP cI cZ cS O k g a d 1 c2 f2 z2 V2 T n K G L v]) X (c_L_looks l D cI cZ cS cJ O k g a d 1 c2 f2 z2 V2 T n K G L v hOV2) (va_cwS 1 hts gL_law_L_looks rfl rfl rfl (by decide +kernel) ⟨Nat.le_of_ble_eq_true rfl, Nat.le_of_ble_eq_true rfl⟩) hK hP hD hS hA rfl hl.1 rfl (Nat.le_of_ble_eq_true rfl) dL_law_178 ⟨Nat.le_of_ble_eq_true rfl, Nat.le_of_ble_eq_true rfl⟩ (fun u H locs hu hP hD hS => ?_)
      have hP : va_P D vwCl (List.flatten [clP cI cZ cS O k g a d 1 c2 f2 z2 V2 T n K G L v]) _ := hP
      have hD : va_D A (List.flatten [clP cI cZ cS O k g a d 1 c2 f2 z2 V2 T n K G L v]) := hD
      refine lv_eql (y := lkS S1) (by rw [hV2]) ?_
      refine lv_lload hx hb dL_law_181 (lv_at hl 1 rfl) ?_
      refine W.lcmp hx hb dL_law_183 ?_
      refine lv_if_ne (tgt := 191) hx hb dL_law_184 (by decide) (fun h => absurd (lg_same _) h) (fun _ => ?_)
      refine lv_iconst (v := 1) hx hb dL_law_187 (by decide) ?_
      refine lv_goto (tgt := 192) hx hb dL_law_188 (by decide) ?_
      refine lv_istore_n (lv' := [(2, .int 1), (12, .int (nI (zb))), (10, .long (lkS S1)), (9, .int g1), (8, .int (nI z)), (6, .long (lkS S)), (5, .int y), (4, .int x), (3, .int (nI t)), (1, .ref (O 0)), (0, .ref b)]) hx hb dL_law_192 rfl hl (by decide) rfl (fun ls hl => ?_)
      exact kk x y S1 c2 f2 z2 V2 K G L v hw2 hD1 _ _ _ hP hD hS (lv_sub hl [6, 7, 8, 0, 9, 10] rfl)
  refine n_ge (i := z) (j := 6) (tgt := 104) hx hb (by omega) (by omega) dL_law_94 (by decide) (fun c94 => ?_) (fun c94 => ?_)
  · skip
    refine lv_bipush (v := 6) hx hb dL_law_104 (by decide) ?_
    refine lv_eqi (y := nI z1) (sz_a hz c94 hzz1) ?_
    exact jn94
  · skip
    refine lv_iload hx hb dL_law_97 (lv_at hl 1 rfl) ?_
    refine lv_iconst (v := 1) hx hb dL_law_99 (by decide) ?_
    refine lv_iadd hx hb dL_law_100 ?_
    refine lv_eqi (y := nI (z + 1)) (nI_add _ _) ?_
    refine lv_goto (tgt := 106) hx hb dL_law_101 (by decide) ?_
    refine lv_eqi (y := nI z1) (sz_b c94 hzz1) ?_
    exact jn94

set_option maxHeartbeats 4000000 in
set_option maxRecDepth 100000 in
theorem lw_2 {p : Program} {e : Env} {s : State} {m : MethodId} {args : Array Value} {below : List Frame} {meth : Method} {cd : Code} {Q : State → Prop} {A : Nat → Prop} (l : Launch) (D : va_G) (cI cZ cS cJ : ClassId) (X : CallFix p m cd cL_law 13 s args wsL_law RL) (hK : va_K D vwCl (tyL cI cZ cS cJ) s) (hA : ∀ q, s.heap.size ≤ q → A q) (O k g a d : Nat → Nat) {b Lx : Nat} {xs : Nat → Int32} (hX : va_X b Lx xs s s.heap) (hbl : b < s.heap.size) (hbA : ¬ A b) (hLx : Lx ≤ 260) (T : Nat → Int32) (n : Nat) (c : Nat → Nat → Nat) (f : Nat → Option Nat) (z : Nat) (V : Nat → Nat → Nat → Int32) (K G : Nat → Nat → Int32) (L : Nat → Int32) (v : Int32) (hF : FLS) (x y : Int32) (S S7 : Nat → Nat → Int32) (t : Nat) (ht : t < 50) (hPD : PD (t + 1) S) (hO : OK S) (hw : WI S S7 c f z V) (kk : ∀ (c : Nat → Nat → Nat) (f : Nat → Option Nat) (z : Nat) (V : Nat → Nat → Nat → Int32) (K G : Nat → Nat → Int32) (L : Nat → Int32) (v : Int32) (_ : WI S S7 c f z V) (H : Heap) (locs : List Loc) (ls : Array Slot), va_P D vwCl (List.flatten [clP cI cZ cS O k g a d 1 c f z V T n K G L v]) H → va_D A (List.flatten [clP cI cZ cS O k g a d 1 c f z V T n K G L v]) → va_S A s.heap H locs → lv_has ls 13 [(3, .int (nI t)), (2, .int 1), (1, .ref (O 0)), (0, .ref b)] → W p l e room_1 s m args below meth cd H locs 143 1424 Q (F0 m 236 ls [])) (H : Heap) (locs : List Loc) (ls : Array Slot) (hP : va_P D vwCl (List.flatten [clP cI cZ cS O k g a d 1 c f z V T n K G L v]) H) (hD : va_D A (List.flatten [clP cI cZ cS O k g a d 1 c f z V T n K G L v])) (hS : va_S A s.heap H locs) (hl : lv_has ls 13 [(5, .int y), (4, .int x), (3, .int (nI t)), (2, .int 1), (1, .ref (O 0)), (0, .ref b)]) : W p l e room_1 s m args below meth cd H locs 143 1424 Q (F0 m 193 ls []) := by
  obtain ⟨hx, hb, hml, hown, hts⟩ := id X
  obtain ⟨hz, hf, hV0, hV7⟩ := id hw
  have hOV : OK (V 0) := by rw [hV0]; exact hO
  refine lv_iload_n hx hb dL_law_193 rfl (lv_at hl 3 rfl) ?_
  refine lv_if_eq (tgt := 261) hx hb dL_law_194 (by decide) (fun h => absurd h (by decide)) (fun _ => ?_)
  refine lv_aload_n hx hb dL_law_197 rfl (lv_at hl 4 rfl) ?_
  refine kcallSJ (U := (Nat → Nat → Int32) × (Nat → Nat → Int32) × (Nat → Int32) × Int32) (As := [.ref (O 0)]) (rest := []) (Wr := []) (Wc := [clP cI cZ cS O k g a d 1 c f z V T n K G L v]) (Wo := fun u => [clP cI cZ cS O k g a d 1 c f z V T n u.1 u.2.1 u.2.2.1 u.2.2.2]) X (c_L_holds l D cI cZ cS cJ O k g a d 1 c f z V T n K G L v hOV _ (by rw [hV0]; exact hPD.1.2) (by omega) (by rw [hV0]; exact hPD.2.1) (by rw [hV0]; exact hF _ _ (by omega) hPD.1)) (va_cwS 1 hts gL_law_L_holds rfl rfl rfl (by decide +kernel) ⟨Nat.le_of_ble_eq_true rfl, Nat.le_of_ble_eq_true rfl⟩) hK hP hD hS hA rfl hl.1 rfl (Nat.le_of_ble_eq_true rfl) dL_law_198 ⟨Nat.le_of_ble_eq_true rfl, Nat.le_of_ble_eq_true rfl⟩ (fun uu H locs hu hP hD hS => ?_)
  obtain ⟨K8, G8, L8, v8⟩ := uu
  have hP : va_P D vwCl (List.flatten [clP cI cZ cS O k g a d 1 c f z V T n K8 G8 L8 v8]) _ := hP
  have hD : va_D A (List.flatten [clP cI cZ cS O k g a d 1 c f z V T n K8 G8 L8 v8]) := hD
  refine lv_if_eq (tgt := 261) hx hb dL_law_201 (by decide) (fun h => absurd h (by decide)) (fun _ => ?_)
  refine lv_iload_n hx hb dL_law_204 rfl (lv_at hl 2 rfl) ?_
  refine lv_iconst (v := 3) hx hb dL_law_205 (by decide) ?_
  refine lv_irem hx hb dL_law_206 (by decide) ?_
  refine lv_eqi (y := nI (t % 3)) (pk_rem (a := t) (d := 3) (by omega) (by decide) (by decide)) ?_
  refine lv_iconst (v := 1) hx hb dL_law_207 (by decide) ?_
  refine n_ne (i := t % 3) (j := 1) (tgt := 236) hx hb (by omega) (by omega) dL_law_208 (by decide) (fun c208 => ?_) (fun c208 => ?_)
  · skip
    exact kk c f z V K8 G8 L8 v8 hw _ _ _ hP hD hS (lv_sub hl [2, 3, 4, 5] rfl)
  · skip
    refine lv_aload_n hx hb dL_law_211 rfl (lv_at hl 4 rfl) ?_
    refine lv_iload hx hb dL_law_212 (lv_at hl 1 rfl) ?_
    refine lv_iconst (v := 5) hx hb dL_law_214 (by decide) ?_
    refine lv_ishr hx hb dL_law_215 ?_
    refine lv_eqi (y := sh9 x 5) rfl ?_
    refine lv_bipush (v := 8) hx hb dL_law_216 (by decide) ?_
    refine kcallSJ (U := Unit) (As := [.int (sh9 x 5), .int 8]) (rest := [.ref (O 0)]) (Wr := [clP cI cZ cS O k g a d 1 c f z V T n K8 G8 L8 v8]) (Wc := []) (Wo := fun _ => []) X (c_L_up l D (tyL cI cZ cS cJ) (sh9 x 5) 8 (by decide) (by decide)) (va_cwS 2 hts gL_law_L_up rfl rfl rfl (by decide +kernel) ⟨Nat.le_of_ble_eq_true rfl, Nat.le_of_ble_eq_true rfl⟩) hK (hP) (hD) hS hA rfl hl.1 rfl (Nat.le_of_ble_eq_true rfl) dL_law_218 ⟨Nat.le_of_ble_eq_true rfl, Nat.le_of_ble_eq_true rfl⟩ (fun u H locs hu hP hD hS => ?_)
    have hP : va_P D vwCl (List.flatten [clP cI cZ cS O k g a d 1 c f z V T n K8 G8 L8 v8]) _ := hP
    have hD : va_D A (List.flatten [clP cI cZ cS O k g a d 1 c f z V T n K8 G8 L8 v8]) := hD
    have hu218 : upN (sh9 x 5) 8 < 8 := up_lt9 _ (by decide)
    refine lv_iload hx hb dL_law_221 (lv_at hl 0 rfl) ?_
    refine lv_iconst (v := 4) hx hb dL_law_223 (by decide) ?_
    refine lv_ishr hx hb dL_law_224 ?_
    refine lv_eqi (y := sh9 y 4) rfl ?_
    refine lv_bipush (v := 7) hx hb dL_law_225 (by decide) ?_
    refine kcallSJ (U := Unit) (As := [.int (sh9 y 4), .int 7]) (rest := [.int (nI (upN (sh9 x 5) 8)), .ref (O 0)]) (Wr := [clP cI cZ cS O k g a d 1 c f z V T n K8 G8 L8 v8]) (Wc := []) (Wo := fun _ => []) X (c_L_up l D (tyL cI cZ cS cJ) (sh9 y 4) 7 (by decide) (by decide)) (va_cwS 2 hts gL_law_L_up rfl rfl rfl (by decide +kernel) ⟨Nat.le_of_ble_eq_true rfl, Nat.le_of_ble_eq_true rfl⟩) hK (hP) (hD) hS hA rfl hl.1 rfl (Nat.le_of_ble_eq_true rfl) dL_law_227 ⟨Nat.le_of_ble_eq_true rfl, Nat.le_of_ble_eq_true rfl⟩ (fun u H locs hu hP hD hS => ?_)
    have hP : va_P D vwCl (List.flatten [clP cI cZ cS O k g a d 1 c f z V T n K8 G8 L8 v8]) _ := hP
    have hD : va_D A (List.flatten [clP cI cZ cS O k g a d 1 c f z V T n K8 G8 L8 v8]) := hD
    have hu227 : upN (sh9 y 4) 7 < 7 := up_lt9 _ (by decide)
    refine kcallSJ (U := (Nat → Nat → Nat) × (Nat → Option Nat) × (Nat) × (Nat → Nat → Nat → Int32) × (Nat → Nat → Int32) × (Nat → Nat → Int32) × (Nat → Int32) × (Int32)) (As := [.ref (O 0), .int (nI (upN (sh9 x 5) 8)), .int (nI (upN (sh9 y 4) 7))]) (rest := []) (Wr := []) (Wc := [clP cI cZ cS O k g a d 1 c f z V T n K8 G8 L8 v8]) (Wo := fun u => [clP cI cZ cS O k g a d 1 u.1 u.2.1 u.2.2.1 u.2.2.2.1 T n u.2.2.2.2.1 u.2.2.2.2.2.1 u.2.2.2.2.2.2.1 u.2.2.2.2.2.2.2]) X (c_L_isAhead l D cI cZ cS cJ O k g a d 1 c f z V T n K8 G8 L8 v8 S S7 hO hw (upN (sh9 x 5) 8) (upN (sh9 y 4) 7) (by omega) (by omega)) (va_cwS 3 hts gL_law_L_isAhead rfl rfl rfl (by decide +kernel) ⟨Nat.le_of_ble_eq_true rfl, Nat.le_of_ble_eq_true rfl⟩) hK hP hD hS hA rfl hl.1 rfl (Nat.le_of_ble_eq_true rfl) dL_law_230 ⟨Nat.le_of_ble_eq_true rfl, Nat.le_of_ble_eq_true rfl⟩ (fun uu H locs hu hP hD hS => ?_)
    obtain ⟨c7, f7, z7, V7, K7, G7, L7, v7⟩ := uu
    have hw7 : WI S S7 c7 f7 z7 V7 := hu
    obtain ⟨hz7, hf7, hV07, hV77⟩ := id hw7
    have hOV7 : OK (V7 0) := by rw [hV07]; exact hO
    have hP : va_P D vwCl (List.flatten [clP cI cZ cS O k g a d 1 c7 f7 z7 V7 T n K7 G7 L7 v7]) _ := hP
    have hD : va_D A (List.flatten [clP cI cZ cS O k g a d 1 c7 f7 z7 V7 T n K7 G7 L7 v7]) := hD
    refine lv_if_eq (tgt := 261) hx hb dL_law_233 (by decide) (fun h => absurd h (by decide)) (fun _ => ?_)
    exact kk c7 f7 z7 V7 K7 G7 L7 v7 hw7 _ _ _ hP hD hS (lv_sub hl [2, 3, 4, 5] rfl)

set_option maxHeartbeats 4000000 in
set_option maxRecDepth 100000 in
theorem lw_3 {p : Program} {e : Env} {s : State} {m : MethodId} {args : Array Value} {below : List Frame} {meth : Method} {cd : Code} {Q : State → Prop} {A : Nat → Prop} (l : Launch) (D : va_G) (cI cZ cS cJ : ClassId) (X : CallFix p m cd cL_law 13 s args wsL_law RL) (hK : va_K D vwCl (tyL cI cZ cS cJ) s) (hA : ∀ q, s.heap.size ≤ q → A q) (O k g a d : Nat → Nat) {b Lx : Nat} {xs : Nat → Int32} (hX : va_X b Lx xs s s.heap) (hbl : b < s.heap.size) (hbA : ¬ A b) (hLx : Lx ≤ 260) (T : Nat → Int32) (n : Nat) (c : Nat → Nat → Nat) (f : Nat → Option Nat) (z : Nat) (V : Nat → Nat → Nat → Int32) (K G : Nat → Nat → Int32) (L : Nat → Int32) (v : Int32) (S S7 : Nat → Nat → Int32) (t : Nat) (ht : t < 50) (hPD : PD (t + 1) S) (hPD7 : PD (t + 1) S7) (hO : OK S) (hw : WI S S7 c f z V) (kk : ∀ (S7 : Nat → Nat → Int32) (c : Nat → Nat → Nat) (f : Nat → Option Nat) (z : Nat) (V : Nat → Nat → Nat → Int32) (K G : Nat → Nat → Int32) (L : Nat → Int32) (v : Int32) (_ : WI S S7 c f z V) (_ : PD (t + 1) S7) (H : Heap) (locs : List Loc) (ls : Array Slot), va_P D vwCl (List.flatten [clP cI cZ cS O k g a d 1 c f z V T n K G L v]) H → va_D A (List.flatten [clP cI cZ cS O k g a d 1 c f z V T n K G L v]) → va_S A s.heap H locs → lv_has ls 13 [(3, .int (nI (t + 1))), (2, .int 1), (1, .ref (O 0)), (0, .ref b)] → W p l e room_1 s m args below meth cd H locs 143 1424 Q (F0 m 30 ls [])) (H : Heap) (locs : List Loc) (ls : Array Slot) (hP : va_P D vwCl (List.flatten [clP cI cZ cS O k g a d 1 c f z V T n K G L v]) H) (hD : va_D A (List.flatten [clP cI cZ cS O k g a d 1 c f z V T n K G L v])) (hS : va_S A s.heap H locs) (hl : lv_has ls 13 [(3, .int (nI t)), (2, .int 1), (1, .ref (O 0)), (0, .ref b)]) : W p l e room_1 s m args below meth cd H locs 143 1424 Q (F0 m 236 ls []) := by
  obtain ⟨hx, hb, hml, hown, hts⟩ := id X
  obtain ⟨hz, hf, hV0, hV7⟩ := id hw
  have hOV : OK (V 0) := by rw [hV0]; exact hO
  refine lv_iload_n hx hb dL_law_236 rfl (lv_at hl 0 rfl) ?_
  refine lv_bipush (v := 23) hx hb dL_law_237 (by decide) ?_
  refine lv_irem hx hb dL_law_239 (by decide) ?_
  refine lv_eqi (y := nI (t % 23)) (pk_rem (a := t) (d := 23) (by omega) (by decide) (by decide)) ?_
  refine lv_bipush (v := 14) hx hb dL_law_240 (by decide) ?_
  refine n_ne (i := t % 23) (j := 14) (tgt := 257) hx hb (by omega) (by omega) dL_law_242 (by decide) (fun c242 => ?_) (fun c242 => ?_)
  · skip
    refine lv_iconst (v := 1) hx hb dL_law_257 (by decide) ?_
    refine lv_goto (tgt := 262) hx hb dL_law_258 (by decide) ?_
    refine lv_istore_n (lv' := [(2, .int 1), (3, .int (nI t)), (1, .ref (O 0)), (0, .ref b)]) hx hb dL_law_262 rfl hl (by decide) rfl (fun ls hl => ?_)
    refine lv_iinc (v := nI (t + 1)) (lv' := [(3, .int (nI (t + 1))), (2, .int 1), (1, .ref (O 0)), (0, .ref b)]) hx hb dL_law_263 hl (k := 1) rfl (nI_add _ _) (by decide) rfl (fun ls hl => ?_)
    refine lv_goto (tgt := 30) hx hb dL_law_266 (by decide) ?_
    exact kk S7 c f z V K G L v hw hPD7 _ _ _ hP hD hS (lv_sub hl [0, 1, 2, 3] rfl)
  · skip
    refine lv_aload_n hx hb dL_law_245 rfl (lv_at hl 2 rfl) ?_
    refine kcallVJ (U := Unit) (As := []) (rest := []) (Wr := []) (Wc := [clP cI cZ cS O k g a d 1 c f z V T n K G L v]) (Wo := fun u => [clP cI cZ cS O k g a d 1 c f z (vkeep V) T n K G L v]) X (k_keep l D cI cZ cS cJ O k g a d 1 c f z V T n K G L v hOV) (cwV 0 hts gL_law_X6_keep rfl rfl rfl (by decide +kernel) ⟨Nat.le_of_ble_eq_true rfl, Nat.le_of_ble_eq_true rfl⟩) hK hP hD hS hA 0 6 rfl rfl rfl hl.1 rfl (Nat.le_of_ble_eq_true rfl) dL_law_246 ⟨Nat.le_of_ble_eq_true rfl, Nat.le_of_ble_eq_true rfl⟩ (fun u H locs hu hP hD hS => ?_)
    have hP : va_P D vwCl (List.flatten [clP cI cZ cS O k g a d 1 c f z (vkeep V) T n K G L v]) _ := hP
    have hD : va_D A (List.flatten [clP cI cZ cS O k g a d 1 c f z (vkeep V) T n K G L v]) := hD
    refine lv_eqi (y := S 12 0) (by rw [hV0] <;> rfl) ?_
    have hwk := WI_keep hw
    generalize vkeep V = Vk at hP hD hwk
    obtain ⟨hzk, hfk, hVk, hV7k⟩ := id hwk
    have hP : va_P D vwCl (List.flatten [clP cI cZ cS O k g a d 1 c f z Vk T n K G L v]) _ := hP
    have hD : va_D A (List.flatten [clP cI cZ cS O k g a d 1 c f z Vk T n K G L v]) := hD
    refine lv_aload_n hx hb dL_law_249 rfl (lv_at hl 2 rfl) ?_
    refine lv_iconst (v := 0) hx hb dL_law_250 (by decide) ?_
    refine kcallVJ (U := Unit) (As := [.int 0]) (rest := [.int (S 12 0)]) (Wr := []) (Wc := [clP cI cZ cS O k g a d 1 c f z Vk T n K G L v]) (Wo := fun u => [clP cI cZ cS O k g a d 1 c f z Vk T n K G L v]) X (k_count l D cI cZ cS cJ O k g a d 1 c f z Vk T n K G L v 0 (by omega)) (cwV 1 hts gL_law_X6_count rfl rfl rfl (by decide +kernel) ⟨Nat.le_of_ble_eq_true rfl, Nat.le_of_ble_eq_true rfl⟩) hK hP hD hS hA 0 6 rfl rfl rfl hl.1 rfl (Nat.le_of_ble_eq_true rfl) dL_law_251 ⟨Nat.le_of_ble_eq_true rfl, Nat.le_of_ble_eq_true rfl⟩ (fun u H locs hu hP hD hS => ?_)
    have hP : va_P D vwCl (List.flatten [clP cI cZ cS O k g a d 1 c f z Vk T n K G L v]) _ := hP
    have hD : va_D A (List.flatten [clP cI cZ cS O k g a d 1 c f z Vk T n K G L v]) := hD
    refine lv_eqi (y := S 12 0) (by rw [hVk] <;> rfl) ?_
    refine lv_icmp_ne (tgt := 261) hx hb dL_law_254 (by decide) (fun h => absurd rfl h) (fun _ => ?_)
    refine lv_iconst (v := 1) hx hb dL_law_257 (by decide) ?_
    refine lv_goto (tgt := 262) hx hb dL_law_258 (by decide) ?_
    refine lv_istore_n (lv' := [(2, .int 1), (3, .int (nI t)), (1, .ref (O 0)), (0, .ref b)]) hx hb dL_law_262 rfl hl (by decide) rfl (fun ls hl => ?_)
    refine lv_iinc (v := nI (t + 1)) (lv' := [(3, .int (nI (t + 1))), (2, .int 1), (1, .ref (O 0)), (0, .ref b)]) hx hb dL_law_263 hl (k := 1) rfl (nI_add _ _) (by decide) rfl (fun ls hl => ?_)
    refine lv_goto (tgt := 30) hx hb dL_law_266 (by decide) ?_
    exact kk S c f z Vk K G L v hwk hPD _ _ _ hP hD hS (lv_sub hl [0, 1, 2, 3] rfl)

set_option maxHeartbeats 4000000 in
set_option maxRecDepth 100000 in
theorem lw_loop {p : Program} {e : Env} {s : State} {m : MethodId} {args : Array Value} {below : List Frame} {meth : Method} {cd : Code} {Q : State → Prop} {A : Nat → Prop} (l : Launch) (D : va_G) (cI cZ cS cJ : ClassId) (X : CallFix p m cd cL_law 13 s args wsL_law RL) (hK : va_K D vwCl (tyL cI cZ cS cJ) s) (hA : ∀ q, s.heap.size ≤ q → A q) (O k g a d : Nat → Nat) {b Lx : Nat} {xs : Nat → Int32} (hX : va_X b Lx xs s s.heap) (hbl : b < s.heap.size) (hbA : ¬ A b) (hLx : Lx ≤ 260) (T : Nat → Int32) (n : Nat) (hF : FLS) (hend : ∀ (H : Heap) (locs : List Loc) (ls : Array Slot), va_S A s.heap H locs → lv_has ls 13 [(2, .int 1)] → W p l e room_1 s m args below meth cd H locs 143 1424 Q (F0 m 269 ls [])) : ∀ (nn t : Nat), t ≤ 50 → 50 - t < nn → ∀ (c : Nat → Nat → Nat) (f : Nat → Option Nat) (z : Nat) (V : Nat → Nat → Nat → Int32) (K G : Nat → Nat → Int32) (L : Nat → Int32) (v : Int32) (S S7 : Nat → Nat → Int32), WI S S7 c f z V → PD t S → PD t S7 → ∀ (H : Heap) (locs : List Loc) (ls : Array Slot), va_P D vwCl (List.flatten [clP cI cZ cS O k g a d 1 c f z V T n K G L v]) H → va_D A (List.flatten [clP cI cZ cS O k g a d 1 c f z V T n K G L v]) → va_S A s.heap H locs → lv_has ls 13 [(3, .int (nI t)), (2, .int 1), (1, .ref (O 0)), (0, .ref b)] → W p l e room_1 s m args below meth cd H locs 143 1424 Q (F0 m 30 ls []) := by
  intro nn
  induction nn with
  | zero => intro t ht hms; exact absurd hms (Nat.not_lt_zero _)
  | succ nn ih =>
    intro t ht hms c f z V K G L v S S7 hw hPD hPD7 H locs ls hP hD hS hl
    obtain ⟨hx, hb, hml, hown, hts⟩ := id X
    refine lv_iload_n hx hb dL_law_30 rfl (lv_at hl 0 rfl) ?_
    refine lv_bipush (v := 50) hx hb dL_law_31 (by decide) ?_
    refine n_ge (i := t) (j := 50) (tgt := 269) hx hb (by omega) (by omega) dL_law_33 (by decide) (fun c33 => ?_) (fun c33 => ?_)
    · skip
      exact hend _ _ _ hS (lv_sub hl [1] rfl)
    · skip
      refine lv_iload_n hx hb dL_law_36 rfl (lv_at hl 1 rfl) ?_
      refine lv_if_eq (tgt := 269) hx hb dL_law_37 (by decide) (fun h => absurd h (by decide)) (fun _ => ?_)
      refine lw_1 l D cI cZ cS cJ X hK hA O k g a d hX hbl hbA hLx T n c f z V K G L v S S7 t (by omega) hPD hPD7 hPD.1.1 hPD7.1.1 hw (fun x y S1 c f z V K G L v hw hD1 H locs ls hP hD hS hl => ?_) _ _ _ hP hD hS (lv_sub hl [0, 1, 2, 3] rfl)
      refine lw_2 l D cI cZ cS cJ X hK hA O k g a d hX hbl hbA hLx T n c f z V K G L v hF x y S1 S7 t (by omega) hD1 hD1.1.1 hw (fun c f z V K G L v hw H locs ls hP hD hS hl => ?_) _ _ _ hP hD hS hl
      refine lw_3 l D cI cZ cS cJ X hK hA O k g a d hX hbl hbA hLx T n c f z V K G L v S1 S7 t (by omega) hD1 (PD_up hPD7) hD1.1.1 hw (fun S7 c f z V K G L v hw hPD7 H locs ls hP hD hS hl => ?_) _ _ _ hP hD hS hl
      exact ih (t + 1) (by omega) (by omega) c f z V K G L v S1 S7 hw hD1 hPD7 _ _ _ hP hD hS hl

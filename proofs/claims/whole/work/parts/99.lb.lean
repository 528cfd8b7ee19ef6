/-! the law's loop -/
def FLT (S : Nat → Nat → Int32) : Prop := vf_n32 (lsF S) ∧ okF (lsF S) = true ∧ vf_n64 (FP.f2d (lsF S))
theorem and31 (x : Int32) : ∃ q : Nat, q < 32 ∧ x &&& 31 = nI q := by
  have h0 : (x &&& 31).toBitVec.toNat ≤ 31 := by
    rw [Int32.toBitVec_and, BitVec.toNat_and]
    exact Nat.and_le_right
  have h1 : (x &&& 31).toInt = ((x &&& 31).toBitVec.toNat : Int) := by
    show (x &&& 31).toBitVec.toInt = _
    rw [BitVec.toInt_eq_toNat_of_lt (by omega)]
  have h2 := nI_back (x := x &&& 31) (by omega)
  refine ⟨(x &&& 31).toNatClampNeg, ?_, h2⟩
  have := clamp_le (x := x &&& 31) (n := 31) (by omega) (by omega) (by decide)
  omega

set_option maxHeartbeats 4000000 in
set_option maxRecDepth 100000 in
theorem lw_body {p : Program} {e : Env} {s : State} {m : MethodId} {args : Array Value} {below : List Frame} {meth : Method} {cd : Code} {Q : State → Prop} {A : Nat → Prop} (l : Launch) (D : va_G) (cI cZ cS cJ : ClassId) (hl9 : l.stackTraces = false) (X : CallFix p m cd cL_law 9 s args wsL_law RL) (hZ : ZX A s) (hK : va_K D vwCl (tyL cI cZ cS cJ) s) (hA : ∀ q, s.heap.size ≤ q → A q) {b Lx : Nat} {xs : Nat → Int32} (hX : va_X b Lx xs s s.heap) (hbl : b < s.heap.size) (hbA : ¬ A b) (o m0 m1 m2 m3 : Nat) (O k g a d : Nat → Nat) (w0 : Int32) (c : Nat → Nat → Nat) (f : Nat → Option Nat) (z : Nat) (V : Nat → Nat → Nat → Int32) (T : Nat → Int32) (n : Nat) (K G : Nat → Nat → Int32) (L : Nat → Int32) (v : Int32) (ww : Int64) (th ca lt fi sd : Int32) (hs : Int64) (B : Nat → Nat → Nat → Int32) (h : Nat → Int32) (t cells slots : Nat) (ht : t < 600) (hLx : 3 * t + 2 < Lx) (hLx2 : Lx ≤ 1536) (hcs : cells + 1 ≤ room_1.cells ∧ slots + 6 ≤ room_1.slots) (hI : IV t w0 n c f z V B) (hFL : FLT (B 0)) (hk : KT 1723 p l e s m args below meth cd Q A D cI cZ cS cJ b o m0 m1 m2 m3 O k g a d t (cells + 1) (slots + 6)) (H : Heap) (locs : List Loc) (ls : Array Slot) (hP : va_P D vwCl (List.flatten (LW cI cZ cS cJ o m0 m1 m2 m3 O k g a d w0 c f z V T n K G L v ww th ca lt fi sd hs B h)) H) (hD : va_D A (List.flatten (LW cI cZ cS cJ o m0 m1 m2 m3 O k g a d w0 c f z V T n K G L v ww th ca lt fi sd hs B h))) (hS : va_S A s.heap H locs) (hl : lv_has ls 9 [(0, .ref b), (1, .ref (O 0)), (2, .ref m0), (3, .ref o), (4, .int (nI (3 * t)))]) (q : Nat) (hq : q < 32) : W p l e room_1 s m args below meth cd H locs cells slots Q (F0 m 39 ls [.int (nI q)]) := by
  obtain ⟨hx, hb, hml, hown, hts⟩ := id X
  rcases (show q = 0 ∨ q = 1 ∨ q = 2 ∨ q = 3 ∨ q = 4 ∨ q = 5 ∨ q = 6 ∨ q = 7 ∨ q = 8 ∨ q = 9 ∨ q = 10 ∨ q = 11 ∨ q = 12 ∨ q = 13 ∨ q = 14 ∨ q = 15 ∨ q = 16 ∨ q = 17 ∨ q = 18 ∨ q = 19 ∨ q = 20 ∨ q = 21 ∨ q = 22 ∨ q = 23 ∨ q = 24 ∨ q = 25 ∨ q = 26 ∨ q = 27 ∨ q = 28 ∨ q = 29 ∨ q = 30 ∨ q = 31 by omega) with rfl | rfl | rfl | rfl | rfl | rfl | rfl | rfl | rfl | rfl | rfl | rfl | rfl | rfl | rfl | rfl | rfl | rfl | rfl | rfl | rfl | rfl | rfl | rfl | rfl | rfl | rfl | rfl | rfl | rfl | rfl | rfl
  · refine lv_tableIn (tgt := 176) hx hb dL_law_39 (by decide) (by decide) rfl (by decide) ?_
    exact lw_fill l D cI cZ cS cJ hl9 X hZ hK hA hX hbl hbA o m0 m1 m2 m3 O k g a d w0 c f z V T n K G L v ww th ca lt fi sd hs B h t cells slots ht hLx hLx2 hcs hI hk H locs ls hP hD hS hl
  · refine lv_tableIn (tgt := 244) hx hb dL_law_39 (by decide) (by decide) rfl (by decide) ?_
    exact lw_vent l D cI cZ cS cJ hl9 X hZ hK hA hX hbl hbA o m0 m1 m2 m3 O k g a d w0 c f z V T n K G L v ww th ca lt fi sd hs B h t cells slots ht hLx hLx2 hcs hI hk H locs ls hP hD hS hl
  · refine lv_tableIn (tgt := 312) hx hb dL_law_39 (by decide) (by decide) rfl (by decide) ?_
    exact lw_drop l D cI cZ cS cJ hl9 X hZ hK hA hX hbl hbA o m0 m1 m2 m3 O k g a d w0 c f z V T n K G L v ww th ca lt fi sd hs B h t cells slots ht hLx hLx2 hcs hI hk H locs ls hP hD hS hl
  · refine lv_tableIn (tgt := 368) hx hb dL_law_39 (by decide) (by decide) rfl (by decide) ?_
    exact lw_put l D cI cZ cS cJ hl9 X hZ hK hA hX hbl hbA o m0 m1 m2 m3 O k g a d w0 c f z V T n K G L v ww th ca lt fi sd hs B h t cells slots ht hLx hLx2 hcs hI hk H locs ls hP hD hS hl
  · refine lv_tableIn (tgt := 424) hx hb dL_law_39 (by decide) (by decide) rfl (by decide) ?_
    exact lw_leak l D cI cZ cS cJ hl9 X hZ hK hA hX hbl hbA o m0 m1 m2 m3 O k g a d w0 c f z V T n K G L v ww th ca lt fi sd hs B h t cells slots ht hLx hLx2 hcs hI hk H locs ls hP hD hS hl
  · refine lv_tableIn (tgt := 492) hx hb dL_law_39 (by decide) (by decide) rfl (by decide) ?_
    exact lw_tie l D cI cZ cS cJ hl9 X hZ hK hA hX hbl hbA o m0 m1 m2 m3 O k g a d w0 c f z V T n K G L v ww th ca lt fi sd hs B h t cells slots ht hLx hLx2 hcs hI hk H locs ls hP hD hS hl
  · refine lv_tableIn (tgt := 560) hx hb dL_law_39 (by decide) (by decide) rfl (by decide) ?_
    exact lw_cut l D cI cZ cS cJ hl9 X hZ hK hA hX hbl hbA o m0 m1 m2 m3 O k g a d w0 c f z V T n K G L v ww th ca lt fi sd hs B h t cells slots ht hLx hLx2 hcs hI hk H locs ls hP hD hS hl
  · refine lv_tableIn (tgt := 616) hx hb dL_law_39 (by decide) (by decide) rfl (by decide) ?_
    exact lw_bear l D cI cZ cS cJ hl9 X hZ hK hA hX hbl hbA o m0 m1 m2 m3 O k g a d w0 c f z V T n K G L v ww th ca lt fi sd hs B h t cells slots ht hLx hLx2 hcs hI hk H locs ls hP hD hS hl
  · refine lv_tableIn (tgt := 684) hx hb dL_law_39 (by decide) (by decide) rfl (by decide) ?_
    exact lw_tune l D cI cZ cS cJ hl9 X hZ hK hA hX hbl hbA o m0 m1 m2 m3 O k g a d w0 c f z V T n K G L v ww th ca lt fi sd hs B h t cells slots ht hLx hLx2 hcs hI hk H locs ls hP hD hS hl
  · refine lv_tableIn (tgt := 752) hx hb dL_law_39 (by decide) (by decide) rfl (by decide) ?_
    exact lw_note l D cI cZ cS cJ hl9 X hZ hK hA hX hbl hbA o m0 m1 m2 m3 O k g a d w0 c f z V T n K G L v ww th ca lt fi sd hs B h t cells slots ht hLx hLx2 hcs hI hk H locs ls hP hD hS hl
  · refine lv_tableIn (tgt := 808) hx hb dL_law_39 (by decide) (by decide) rfl (by decide) ?_
    exact lw_pass l D cI cZ cS cJ hl9 X hZ hK hA hX hbl hbA o m0 m1 m2 m3 O k g a d w0 c f z V T n K G L v ww th ca lt fi sd hs B h t cells slots ht hLx hLx2 hcs hI hk H locs ls hP hD hS hl
  · refine lv_tableIn (tgt := 864) hx hb dL_law_39 (by decide) (by decide) rfl (by decide) ?_
    exact lw_append l D cI cZ cS cJ hl9 X hZ hK hA hX hbl hbA o m0 m1 m2 m3 O k g a d w0 c f z V T n K G L v ww th ca lt fi sd hs B h t cells slots ht hLx hLx2 hcs hI hk H locs ls hP hD hS hl
  · refine lv_tableIn (tgt := 920) hx hb dL_law_39 (by decide) (by decide) rfl (by decide) ?_
    exact lw_clearBuffer l D cI cZ cS cJ hl9 X hZ hK hA hX hbl hbA o m0 m1 m2 m3 O k g a d w0 c f z V T n K G L v ww th ca lt fi sd hs B h t cells slots ht hLx hLx2 hcs hI hk H locs ls hP hD hS hl
  · refine lv_tableIn (tgt := 933) hx hb dL_law_39 (by decide) (by decide) rfl (by decide) ?_
    exact lw_firstError l D cI cZ cS cJ hl9 X hZ hK hA hX hbl hbA o m0 m1 m2 m3 O k g a d w0 c f z V T n K G L v ww th ca lt fi sd hs B h t cells slots ht hLx hLx2 hcs hI hk H locs ls hP hD hS hl
  · refine lv_tableIn (tgt := 946) hx hb dL_law_39 (by decide) (by decide) rfl (by decide) ?_
    exact lw_work l D cI cZ cS cJ hl9 X hZ hK hA hX hbl hbA o m0 m1 m2 m3 O k g a d w0 c f z V T n K G L v ww th ca lt fi sd hs B h t cells slots ht hLx hLx2 hcs hI hk H locs ls hP hD hS hl
  · refine lv_tableIn (tgt := 990) hx hb dL_law_39 (by decide) (by decide) rfl (by decide) ?_
    exact lw_keep l D cI cZ cS cJ hl9 X hZ hK hA hX hbl hbA o m0 m1 m2 m3 O k g a d w0 c f z V T n K G L v ww th ca lt fi sd hs B h t cells slots ht hLx hLx2 hcs hI hk H locs ls hP hD hS hl
  · refine lv_tableIn (tgt := 1003) hx hb dL_law_39 (by decide) (by decide) rfl (by decide) ?_
    exact lw_goBack l D cI cZ cS cJ hl9 X hZ hK hA hX hbl hbA o m0 m1 m2 m3 O k g a d w0 c f z V T n K G L v ww th ca lt fi sd hs B h t cells slots ht hLx hLx2 hcs hI hk H locs ls hP hD hS hl
  · refine lv_tableIn (tgt := 1047) hx hb dL_law_39 (by decide) (by decide) rfl (by decide) ?_
    exact lw_undo l D cI cZ cS cJ hl9 X hZ hK hA hX hbl hbA o m0 m1 m2 m3 O k g a d w0 c f z V T n K G L v ww th ca lt fi sd hs B h t cells slots ht hLx hLx2 hcs hI hk H locs ls hP hD hS hl
  · refine lv_tableIn (tgt := 1091) hx hb dL_law_39 (by decide) (by decide) rfl (by decide) ?_
    exact lw_balloon l D cI cZ cS cJ hl9 X hZ hK hA hX hbl hbA o m0 m1 m2 m3 O k g a d w0 c f z V T n K G L v ww th ca lt fi sd hs B h t cells slots ht hLx hLx2 hcs hI hk H locs ls hP hD hS hl
  · refine lv_tableIn (tgt := 1159) hx hb dL_law_39 (by decide) (by decide) rfl (by decide) ?_
    exact lw_ribbon l D cI cZ cS cJ hl9 X hZ hK hA hX hbl hbA o m0 m1 m2 m3 O k g a d w0 c f z V T n K G L v ww th ca lt fi sd hs B h t cells slots ht hLx hLx2 hcs hI hk H locs ls hP hD hS hl
  · refine lv_tableIn (tgt := 1227) hx hb dL_law_39 (by decide) (by decide) rfl (by decide) ?_
    exact lw_noted l D cI cZ cS cJ hl9 X hZ hK hA hX hbl hbA o m0 m1 m2 m3 O k g a d w0 c f z V T n K G L v ww th ca lt fi sd hs B h t cells slots ht hLx hLx2 hcs hI hk H locs ls hP hD hS hl
  · refine lv_tableIn (tgt := 1295) hx hb dL_law_39 (by decide) (by decide) rfl (by decide) ?_
    exact lw_count l D cI cZ cS cJ hl9 X hZ hK hA hX hbl hbA o m0 m1 m2 m3 O k g a d w0 c f z V T n K G L v ww th ca lt fi sd hs B h t cells slots ht hLx hLx2 hcs hI hk H locs ls hP hD hS hl
  · refine lv_tableIn (tgt := 1351) hx hb dL_law_39 (by decide) (by decide) rfl (by decide) ?_
    exact lw_why l D cI cZ cS cJ hl9 X hZ hK hA hX hbl hbA o m0 m1 m2 m3 O k g a d w0 c f z V T n K G L v ww th ca lt fi sd hs B h t cells slots ht hLx hLx2 hcs hI hk H locs ls hP hD hS hl
  · refine lv_tableIn (tgt := 1419) hx hb dL_law_39 (by decide) (by decide) rfl (by decide) ?_
    exact lw_stopped l D cI cZ cS cJ hl9 X hZ hK hA hX hbl hbA o m0 m1 m2 m3 O k g a d w0 c f z V T n K G L v ww th ca lt fi sd hs B h t cells slots ht hLx hLx2 hcs hI hk H locs ls hP hD hS hl
  · refine lv_tableIn (tgt := 1475) hx hb dL_law_39 (by decide) (by decide) rfl (by decide) ?_
    exact lw_ifDropped l D cI cZ cS cJ hl9 X hZ hK hA hX hbl hbA o m0 m1 m2 m3 O k g a d w0 c f z V T n K G L v ww th ca lt fi sd hs B h t cells slots ht hLx hLx2 hcs hI hk H locs ls hP hD hS hl
  · refine lv_tableIn (tgt := 1543) hx hb dL_law_39 (by decide) (by decide) rfl (by decide) ?_
    exact lw_landsIn l D cI cZ cS cJ hl9 X hZ hK hA hX hbl hbA o m0 m1 m2 m3 O k g a d w0 c f z V T n K G L v ww th ca lt fi sd hs B h t cells slots ht hLx hLx2 hcs hI hk H locs ls hP hD hS hl
  · refine lv_tableIn (tgt := 1599) hx hb dL_law_39 (by decide) (by decide) rfl (by decide) ?_
    exact lw_snapsIn l D cI cZ cS cJ hl9 X hZ hK hA hX hbl hbA o m0 m1 m2 m3 O k g a d w0 c f z V T n K G L v ww th ca lt fi sd hs B h t cells slots ht hLx hLx2 hcs hI hk H locs ls hP hD hS hl
  · refine lv_tableIn (tgt := 1612) hx hb dL_law_39 (by decide) (by decide) rfl (by decide) ?_
    exact lw_bestBag l D cI cZ cS cJ hl9 X hZ hK hA hX hbl hbA o m0 m1 m2 m3 O k g a d w0 c f z V T n K G L v ww th ca lt fi sd hs B h t cells slots ht hLx hLx2 hcs hI hk H locs ls hP hD hS hl
  · refine lv_tableIn (tgt := 1625) hx hb dL_law_39 (by decide) (by decide) rfl (by decide) ?_
    exact lw_meanHeight l D cI cZ cS cJ hl9 X hZ hK hA hX hbl hbA o m0 m1 m2 m3 O k g a d w0 c f z V T n K G L v ww th ca lt fi sd hs B h t cells slots ht hLx hLx2 hcs hI hk H locs ls hP hD hS hl
  · refine lv_tableIn (tgt := 1666) hx hb dL_law_39 (by decide) (by decide) rfl (by decide) ?_
    exact lw_lostShare l D cI cZ cS cJ hl9 X hZ hK hA hX hbl hbA o m0 m1 m2 m3 O k g a d w0 c f z V T n K G L v ww th ca lt fi sd hs B h t cells slots ht hLx hLx2 hcs hI hk H locs ls hP hD hS hl hFL.1 hFL.2.2
  · refine lv_tableIn (tgt := 1709) hx hb dL_law_39 (by decide) (by decide) rfl (by decide) ?_
    exact lw_digest l D cI cZ cS cJ hl9 X hZ hK hA hX hbl hbA o m0 m1 m2 m3 O k g a d w0 c f z V T n K G L v ww th ca lt fi sd hs B h t cells slots ht hLx hLx2 hcs hI hk H locs ls hP hD hS hl hFL.1 hFL.2.1
  · refine lv_tableOut (tgt := 1723) hx hb dL_law_39 (by decide) (by decide) ?_
    refine W.widen (k := cells + 1) (n := slots + 6) (by omega) (by omega) ?_
    exact hk w0 c f z V T n K G L v ww th ca lt fi sd hs B h (IV_up hI) H locs ls hP hD hS hl

set_option maxHeartbeats 4000000 in
set_option maxRecDepth 100000 in
theorem lw_loop {p : Program} {e : Env} {s : State} {m : MethodId} {args : Array Value} {below : List Frame} {meth : Method} {cd : Code} {Q : State → Prop} {A : Nat → Prop} (l : Launch) (D : va_G) (cI cZ cS cJ : ClassId) (hl9 : l.stackTraces = false) (X : CallFix p m cd cL_law 9 s args wsL_law RL) (hZ : ZX A s) (hK : va_K D vwCl (tyL cI cZ cS cJ) s) (hA : ∀ q, s.heap.size ≤ q → A q) {b Lx : Nat} {xs : Nat → Int32} (hX : va_X b Lx xs s s.heap) (hbl : b < s.heap.size) (hbA : ¬ A b) (o m0 m1 m2 m3 : Nat) (O k g a d : Nat → Nat) (hLx2 : Lx ≤ 1536) (hFL : ∀ (t : Nat) (S : Nat → Nat → Int32), t < 600 → GD t S → FLT S) (hend : ∀ (H : Heap) (locs : List Loc) (ls : Array Slot), va_S A s.heap H locs → W p l e room_1 s m args below meth cd H locs 601024 7293033 Q (F0 m 1729 ls [])) : ∀ (nn t cells slots : Nat) (w0 : Int32) (c : Nat → Nat → Nat) (f : Nat → Option Nat) (z : Nat) (V : Nat → Nat → Nat → Int32) (T : Nat → Int32) (n : Nat) (K G : Nat → Nat → Int32) (L : Nat → Int32) (v : Int32) (ww : Int64) (th ca lt fi sd : Int32) (hs : Int64) (B : Nat → Nat → Nat → Int32) (h : Nat → Int32), 512 - t < nn → t ≤ 512 → cells + (512 - t) ≤ 600000 → slots + 6 * (512 - t) ≤ 7000000 → IV t w0 n c f z V B → ∀ (H : Heap) (locs : List Loc) (ls : Array Slot), va_P D vwCl (List.flatten (LW cI cZ cS cJ o m0 m1 m2 m3 O k g a d w0 c f z V T n K G L v ww th ca lt fi sd hs B h)) H → va_D A (List.flatten (LW cI cZ cS cJ o m0 m1 m2 m3 O k g a d w0 c f z V T n K G L v ww th ca lt fi sd hs B h)) → va_S A s.heap H locs → lv_has ls 9 [(0, .ref b), (1, .ref (O 0)), (2, .ref m0), (3, .ref o), (4, .int (nI (3 * t)))] → W p l e room_1 s m args below meth cd H locs cells slots Q (F0 m 23 ls []) := by
  obtain ⟨hx, hb, hml, hown, hts⟩ := id X
  have hr1 : room_1.cells = 601024 := rfl
  have hr2 : room_1.slots = 7293033 := rfl
  intro nn
  induction nn with
  | zero => intro t cells slots w0 c f z V T n K G L v ww th ca lt fi sd hs B h hn9; exact absurd hn9 (Nat.not_lt_zero _)
  | succ nn ih =>
    intro t cells slots w0 c f z V T n K G L v ww th ca lt fi sd hs B h hn9 ht hc9 hs9 hI H locs ls hP hD hS hl
    refine lv_iload hx hb dL_law_23 (lv_at hl 4 rfl) ?_
    refine lv_aload_n hx hb dL_law_25 rfl (lv_at hl 0 rfl) ?_
    refine va_slen hx hb hX hbl hbA hS dL_law_26 ?_
    refine lv_iconst (v := 3) hx hb dL_law_27 (by decide) ?_
    refine lv_isub hx hb dL_law_28 ?_
    have e3 : (Int32.ofNat Lx - 3).toInt = (Lx : Int) - 3 := by
      have e1 : (Int32.ofNat Lx).toInt = (Lx : Int) := nI_toInt (by omega)
      have e2 : (3 : Int32).toInt = 3 := by decide
      rw [i_sub (by omega) (by omega) (by omega) (by omega), e1, e2]
    have e4 : (nI (3 * t)).toInt = ((3 * t : Nat) : Int) := nI_toInt (by omega)
    refine lv_icmp_gt (tgt := 1729) hx hb dL_law_29 (by decide) (fun q9c => ?_) (fun q9c => ?_)
    · refine W.widen (k := 601024) (n := 7293033) (by omega) (by omega) ?_
      exact hend H locs ls hS
    · have hLx : 3 * t + 2 < Lx := by
        have h9 : ¬ ((Int32.ofNat Lx - 3).toInt < (nI (3 * t)).toInt) := fun h => q9c (Int32.lt_iff_toInt_lt.mpr h)
        rw [e3, e4] at h9
        omega
      refine lv_aload_n hx hb dL_law_32 rfl (lv_at hl 0 rfl) ?_
      refine lv_iload hx hb dL_law_33 (lv_at hl 4 rfl) ?_
      refine va_sld hx hb hX hbl hbA hS (vp_in_nI (n := 3 * t) (N := Lx) (by omega) (by omega)) dL_law_35 ?_
      refine lv_bipush (v := 31) hx hb dL_law_36 (by decide) ?_
      refine lv_iand hx hb dL_law_38 ?_
      obtain ⟨q, hq, eq⟩ := and31 (xs (nI (3 * t)).toNatClampNeg)
      refine lv_eqi eq ?_
      refine lw_body l D cI cZ cS cJ hl9 X hZ hK hA hX hbl hbA o m0 m1 m2 m3 O k g a d w0 c f z V T n K G L v ww th ca lt fi sd hs B h t cells slots (by omega) hLx hLx2 ⟨by rw [hr1]; omega, by rw [hr2]; omega⟩ hI (hFL t (B 0) (by omega) hI.2.2.2.1) ?_ H locs ls hP hD hS hl q hq
      intro w0 c f z V T n K G L v ww th ca lt fi sd hs B h hI H locs ls hP hD hS hl
      refine lv_iinc (v := nI (3 * (t + 1))) (lv' := [(4, .int (nI (3 * (t + 1)))), (0, .ref b), (1, .ref (O 0)), (2, .ref m0), (3, .ref o)]) hx hb dL_law_1723 hl (k := 4) rfl (by rw [show 3 * (t + 1) = 3 * t + 3 by omega]; exact nI_add _ _) (by decide) rfl (fun ls hl => ?_)
      refine lv_goto (tgt := 23) hx hb dL_law_1726 (by decide) ?_
      exact ih (t + 1) (cells + 1) (slots + 6) w0 c f z V T n K G L v ww th ca lt fi sd hs B h (by omega) (by omega) (by omega) (by omega) hI H locs ls hP hD hS (lv_sub hl [1, 2, 3, 4, 0] rfl)

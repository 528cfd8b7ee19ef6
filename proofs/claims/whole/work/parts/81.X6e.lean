set_option maxHeartbeats 4000000 in
set_option maxRecDepth 100000 in
theorem c_X3_tell (l : Launch) (D : va_G) (cI cZ cS cJ : ClassId) (n0 : Nat) (n1 : Nat) (n2 : Nat) (n3 : Nat) (S : Nat → Nat → Int32) (z : Nat) (r : Nat) (w : Nat) (hz : S 12 8 = nI z) (hz20 : z ≤ 20) (hr : r < 2147483648) (hw : w < 3) : C0 l yX3_tell wsX3_tell ({ frames := 0, cells := 0, slots := 0, locals := 0 }) D (tyL cI cZ cS cJ) [.ref n0, .int (nI r), .int (nI w)] (List.flatten [ntX cI n0 n1 n2 n3 (S 7) (S 8) (S 9) (S 12 8)]) (some (.int (ntl S z r w))) (List.flatten [ntX cI n0 n1 n2 n3 (S 7) (S 8) (S 9) (S 12 8)]) 0 0 := by
  rcases (show w = 0 ∨ w = 1 ∨ w = 2 by omega) with rfl | rfl | rfl
  · exact c_X3_tell0 l D cI cZ cS cJ n0 n1 n2 n3 S z r hz hz20 hr
  · exact c_X3_tell1 l D cI cZ cS cJ n0 n1 n2 n3 S z r hz hz20 hr
  · exact c_X3_tell2 l D cI cZ cS cJ n0 n1 n2 n3 S z r hz hz20 hr

set_option maxHeartbeats 4000000 in
set_option maxRecDepth 100000 in
theorem c_X6_mix (l : Launch) (D : va_G) (cI cZ cS cJ : ClassId) (hq : Int64) (vq : Int64)  : C0 l yX6_mix wsX6_mix ({ frames := 0, cells := 0, slots := 0, locals := 0 }) D (tyL cI cZ cS cJ) [.long hq, .long vq] (List.flatten []) (some (.long ((31 * hq) + vq))) (List.flatten []) 0 0 := by
  refine C0_long (cc := cX6_mix) (maxL := 4) (by decide) rfl (Nat.le_of_ble_eq_true rfl) ?_
  intro p e s m below meth c A ls Q X hK hP hD hS hA hl hend
  have X : CallFix p m c cX6_mix 4 s ([.long hq, .long vq] : List Value).toArray wsX6_mix RX6 := X
  obtain ⟨hx, hb, hml, hown, hts⟩ := id X
  have hl : lv_has ls 4 [(0, .long hq), (2, .long vq)] := hl
  refine lv_ldc2 (v := 31) hx hb hown (hts (.constantLong RX6 323 31) (by decide +kernel)) dX6_mix_0 ?_
  refine lv_lload_n hx hb dX6_mix_3 rfl (lv_at hl 0 rfl) ?_
  refine lv_lmul hx hb dX6_mix_4 ?_
  refine lv_lload_n hx hb dX6_mix_5 rfl (lv_at hl 1 rfl) ?_
  refine lv_ladd hx hb dX6_mix_6 ?_
  refine hend _ _ _ _ _ ?_ hP hD hS dX6_mix_7
  exact rfl

set_option maxHeartbeats 4000000 in
set_option maxRecDepth 100000 in
theorem c_X6_meanHeight (l : Launch) (D : va_G) (cI cZ cS cJ : ClassId) (x0 : Nat) (p0 : Nat) (q0 : Nat) (t0 : Nat) (k0 : Nat) (f0 : Nat) (w0 : Int32) (a : Nat → Nat) (S : Nat → Nat → Int32) (hG : GB S) (h6 : S 6 = ht S) : C0 l yX6_meanHeight wsX6_meanHeight ({ frames := 1, cells := 0, slots := 0, locals := 22 }) D (tyL cI cZ cS cJ) [.ref x0] (List.flatten [rbC x0 (a 0) p0 q0 t0 k0 f0 w0, stO a (S 12 0) (S 12 1) (S 12 2) (S 12 3) (S 12 4) (S 12 5) (S 12 6) (S 12 7), flX cI cZ (a 1) (a 2) (a 3) (a 4) (a 5) (a 6) (a 7) (a 8) (S 0) (S 1) (S 2) (S 3) (S 4) (S 5) (S 6), ntX cI (a 9) (a 10) (a 11) (a 12) (S 7) (S 8) (S 9) (S 12 8), daX cI (a 13) (a 14) (S 10) (S 11)]) (some (.double (mnD (hsm S)))) (List.flatten [rbC x0 (a 0) p0 q0 t0 k0 f0 w0, stO a (S 12 0) (S 12 1) (S 12 2) (S 12 3) (S 12 4) (S 12 5) (S 12 6) (S 12 7), flX cI cZ (a 1) (a 2) (a 3) (a 4) (a 5) (a 6) (a 7) (a 8) (S 0) (S 1) (S 2) (S 3) (S 4) (S 5) (S 6), ntX cI (a 9) (a 10) (a 11) (a 12) (S 7) (S 8) (S 9) (S 12 8), daX cI (a 13) (a 14) (S 10) (S 11)]) 0 0 := by
  refine C0_double (cc := cX6_meanHeight) (maxL := 1) (by decide) rfl (Nat.le_of_ble_eq_true rfl) ?_
  intro p e s m below meth c A ls Q X hK hP hD hS hA hl hend
  have X : CallFix p m c cX6_meanHeight 1 s ([.ref x0] : List Value).toArray wsX6_meanHeight RX6 := X
  obtain ⟨hx, hb, hml, hown, hts⟩ := id X
  have hl : lv_has ls 1 [(0, .ref x0)] := hl
  have hinX4 : ∀ w ∈ u_ws RX4 TX4 12, w ∈ wsX6_meanHeight := by decide +kernel
  have hinX6 : ∀ w ∈ u_ws RX6 TX6 7, w ∈ wsX6_meanHeight := by decide +kernel
  refine lv_aload_n hx hb dX6_meanHeight_0 rfl (lv_at hl 0 rfl) ?_
  refine va_get (D := D) (ci := 6) (v := .ref (a 0)) (C := RX6) (T := TX6) (N := 7) hx hb hts hinX6 hown hK hP 0 rfl rfl 0 (by decide) (hts (.fieldLink RX6 12 "RibbonBalloons" "now" "LRibbonBalloons$State;") (by decide +kernel)) (fun _ h9 => h9) rfl dX6_meanHeight_1 ?_
  refine va_get (D := D) (ci := 4) (v := .ref (a 1)) (C := RX4) (T := TX4) (N := 12) hx hb hts hinX4 hown hK hP 1 rfl rfl 0 (by decide) (hts (.fieldLink RX6 62 "RibbonBalloons$State" "flock" "LRibbonBalloons$Flock;") (by decide +kernel)) (fun _ h9 => h9) rfl dX6_meanHeight_4 ?_
  refine kcallV (As := []) (rest := []) (Wn := [rbC x0 (a 0) p0 q0 t0 k0 f0 w0, stO a (S 12 0) (S 12 1) (S 12 2) (S 12 3) (S 12 4) (S 12 5) (S 12 6) (S 12 7), flX cI cZ (a 1) (a 2) (a 3) (a 4) (a 5) (a 6) (a 7) (a 8) (S 0) (S 1) (S 2) (S 3) (S 4) (S 5) (S 6), ntX cI (a 9) (a 10) (a 11) (a 12) (S 7) (S 8) (S 9) (S 12 8), daX cI (a 13) (a 14) (S 10) (S 11)]) X (c_X0_allHeights l D cI cZ cS cJ (a 1) (a 2) (a 3) (a 4) (a 5) (a 6) (a 7) (a 8) S) (cwV 0 hts gX6_meanHeight_X0_allHeights rfl rfl rfl (by decide +kernel) ⟨Nat.le_of_ble_eq_true rfl, Nat.le_of_ble_eq_true rfl⟩) hK hP hD hS hA [2] rfl (by decide +kernel) rfl rfl rfl 2 0 rfl rfl rfl hl.1 rfl (Nat.le_of_ble_eq_true rfl) dX6_meanHeight_7 ⟨Nat.le_of_ble_eq_true rfl, Nat.le_of_ble_eq_true rfl⟩ (fun H locs hP hD hS => ?_)
  refine lv_eqi (y := hsm S) (by unfold hsm; rw [← h6]) ?_
  refine lv_i2d hx hb dX6_meanHeight_10 ?_
  refine lv_ldc2d (v := 4620693217682128896) hx hb hown (hts (.constantDouble RX6 259 4620693217682128896) (by decide +kernel)) dX6_meanHeight_11 ?_
  refine lv_ddiv hx hb dX6_meanHeight_14 (okM_of (hsm_in hG)).1 ?_
  refine hend _ _ _ _ _ ?_ hP hD hS dX6_meanHeight_15
  exact rfl

set_option maxHeartbeats 4000000 in
set_option maxRecDepth 100000 in
theorem c_X6_lostShare (l : Launch) (D : va_G) (cI cZ cS cJ : ClassId) (x0 : Nat) (p0 : Nat) (q0 : Nat) (t0 : Nat) (k0 : Nat) (f0 : Nat) (w0 : Int32) (a : Nat → Nat) (S : Nat → Nat → Int32) (hL : vf_n32 (lsF S)) : C0 l yX6_lostShare wsX6_lostShare ({ frames := 0, cells := 0, slots := 0, locals := 0 }) D (tyL cI cZ cS cJ) [.ref x0] (List.flatten [rbC x0 (a 0) p0 q0 t0 k0 f0 w0, stO a (S 12 0) (S 12 1) (S 12 2) (S 12 3) (S 12 4) (S 12 5) (S 12 6) (S 12 7), flX cI cZ (a 1) (a 2) (a 3) (a 4) (a 5) (a 6) (a 7) (a 8) (S 0) (S 1) (S 2) (S 3) (S 4) (S 5) (S 6), ntX cI (a 9) (a 10) (a 11) (a 12) (S 7) (S 8) (S 9) (S 12 8), daX cI (a 13) (a 14) (S 10) (S 11)]) (some (.float (lsF S))) (List.flatten [rbC x0 (a 0) p0 q0 t0 k0 f0 w0, stO a (S 12 0) (S 12 1) (S 12 2) (S 12 3) (S 12 4) (S 12 5) (S 12 6) (S 12 7), flX cI cZ (a 1) (a 2) (a 3) (a 4) (a 5) (a 6) (a 7) (a 8) (S 0) (S 1) (S 2) (S 3) (S 4) (S 5) (S 6), ntX cI (a 9) (a 10) (a 11) (a 12) (S 7) (S 8) (S 9) (S 12 8), daX cI (a 13) (a 14) (S 10) (S 11)]) 0 0 := by
  refine C0_float (cc := cX6_lostShare) (maxL := 1) (by decide) rfl (Nat.le_of_ble_eq_true rfl) ?_
  intro p e s m below meth c A ls Q X hK hP hD hS hA hl hend
  have X : CallFix p m c cX6_lostShare 1 s ([.ref x0] : List Value).toArray wsX6_lostShare RX6 := X
  obtain ⟨hx, hb, hml, hown, hts⟩ := id X
  have hl : lv_has ls 1 [(0, .ref x0)] := hl
  have hinX4 : ∀ w ∈ u_ws RX4 TX4 12, w ∈ wsX6_lostShare := by decide +kernel
  have hinX6 : ∀ w ∈ u_ws RX6 TX6 7, w ∈ wsX6_lostShare := by decide +kernel
  refine lv_aload_n hx hb dX6_lostShare_0 rfl (lv_at hl 0 rfl) ?_
  refine va_get (D := D) (ci := 6) (v := .ref (a 0)) (C := RX6) (T := TX6) (N := 7) hx hb hts hinX6 hown hK hP 0 rfl rfl 0 (by decide) (hts (.fieldLink RX6 12 "RibbonBalloons" "now" "LRibbonBalloons$State;") (by decide +kernel)) (fun _ h9 => h9) rfl dX6_lostShare_1 ?_
  refine va_get (D := D) (ci := 4) (v := .int (S 12 2)) (C := RX4) (T := TX4) (N := 12) hx hb hts hinX4 hown hK hP 1 rfl rfl 6 (by decide) (hts (.fieldLink RX6 215 "RibbonBalloons$State" "leaked" "I") (by decide +kernel)) (fun _ h9 => h9) rfl dX6_lostShare_4 ?_
  refine lv_aload_n hx hb dX6_lostShare_7 rfl (lv_at hl 0 rfl) ?_
  refine va_get (D := D) (ci := 6) (v := .ref (a 0)) (C := RX6) (T := TX6) (N := 7) hx hb hts hinX6 hown hK hP 0 rfl rfl 0 (by decide) (hts (.fieldLink RX6 12 "RibbonBalloons" "now" "LRibbonBalloons$State;") (by decide +kernel)) (fun _ h9 => h9) rfl dX6_lostShare_8 ?_
  refine va_get (D := D) (ci := 4) (v := .int (S 12 3)) (C := RX4) (T := TX4) (N := 12) hx hb hts hinX4 hown hK hP 1 rfl rfl 7 (by decide) (hts (.fieldLink RX6 218 "RibbonBalloons$State" "vented" "I") (by decide +kernel)) (fun _ h9 => h9) rfl dX6_lostShare_11 ?_
  refine lv_iadd hx hb dX6_lostShare_14 ?_
  refine lv_i2f hx hb dX6_lostShare_15 ?_
  refine lv_sipush (v := 480) hx hb dX6_lostShare_16 (by decide) ?_
  refine lv_aload_n hx hb dX6_lostShare_19 rfl (lv_at hl 0 rfl) ?_
  refine va_get (D := D) (ci := 6) (v := .ref (a 0)) (C := RX6) (T := TX6) (N := 7) hx hb hts hinX6 hown hK hP 0 rfl rfl 0 (by decide) (hts (.fieldLink RX6 12 "RibbonBalloons" "now" "LRibbonBalloons$State;") (by decide +kernel)) (fun _ h9 => h9) rfl dX6_lostShare_20 ?_
  refine va_get (D := D) (ci := 4) (v := .int (S 12 1)) (C := RX4) (T := TX4) (N := 12) hx hb hts hinX4 hown hK hP 1 rfl rfl 5 (by decide) (hts (.fieldLink RX6 212 "RibbonBalloons$State" "filled" "I") (by decide +kernel)) (fun _ h9 => h9) rfl dX6_lostShare_23 ?_
  refine lv_iadd hx hb dX6_lostShare_26 ?_
  refine lv_i2f hx hb dX6_lostShare_27 ?_
  refine lv_fdiv hx hb dX6_lostShare_28 hL ?_
  refine hend _ _ _ _ _ ?_ hP hD hS dX6_lostShare_29
  exact rfl

set_option maxHeartbeats 4000000 in
set_option maxRecDepth 100000 in
theorem c_X6_doubleBits (l : Launch) (D : va_G) (cI cZ cS cJ : ClassId) (v : UInt64) (hv : okD v = true) : C0 l yX6_doubleBits wsX6_doubleBits ({ frames := 0, cells := 0, slots := 0, locals := 0 }) D (tyL cI cZ cS cJ) [.double v] (List.flatten []) (some (.long (bitD v))) (List.flatten []) 0 0 := by
  refine C0_long (cc := cX6_doubleBits) (maxL := 5) (by decide) rfl (Nat.le_of_ble_eq_true rfl) ?_
  intro p e s m below meth c A ls Q X hK hP hD hS hA hl hend
  have X : CallFix p m c cX6_doubleBits 5 s ([.double v] : List Value).toArray wsX6_doubleBits RX6 := X
  obtain ⟨hx, hb, hml, hown, hts⟩ := id X
  have hl : lv_has ls 5 [(0, .double v)] := hl
  refine lv_dload_n hx hb dX6_doubleBits_0 rfl (lv_at hl 0 rfl) ?_
  refine lv_dconst0 hx hb dX6_doubleBits_1 ?_
  refine lv_dcmp hx hb dX6_doubleBits_2 ?_
  refine lv_if_gt (tgt := 8) hx hb dX6_doubleBits_3 (by decide) (fun c3 => ?_) (fun c3 => ?_)
  · skip
    have cz : ¬ Op.cmpValue (FP.dcmp v FP.dconst0) CmpOp.l = 0 := fun q => absurd c3 (Int32.not_lt.mpr ((okD_z hv).mpr q))
    obtain ⟨ho1, ho2, ho3, ho4, -⟩ := okD_y hv cz
    have hv14 := hvN_le 14 v
    have hv12 := dbN_le 12 (hvR 14 v)
    refine lv_dload_n hx hb dX6_doubleBits_8 rfl (lv_at hl 0 rfl) ?_
    refine lv_dstore_n (lv' := [(2, .double v), (0, .double v)]) hx hb dX6_doubleBits_9 rfl hl (by decide) rfl (fun ls hl => ?_)
    refine lv_iconst (v := 0) hx hb dX6_doubleBits_10 (by decide) ?_
    refine lv_istore (lv' := [(4, .int 0), (2, .double v), (0, .double v)]) hx hb dX6_doubleBits_11 hl (by decide) rfl (fun ls hl => ?_)
    have lp_13 : ∀ (nn : Nat) (f : Nat) (rr : UInt64) (k : Nat), True → (hvO f rr = true) → (hvR f rr = hvR 14 v) → (hvN f rr + k = hvN 14 v) → f < nn → ∀ (H : Heap) (locs : List Loc) (ls : Array Slot), va_P D vwCl (List.flatten []) H → va_D A (List.flatten []) → va_S A s.heap H locs → lv_has ls 5 [(0, .double v), (2, .double rr), (4, .int (nI k))] → W p l e ({ frames := 0, cells := 0, slots := 0, locals := 0 } : Room) s m ([.double v] : List Value).toArray below meth c H locs 0 0 Q (F0 m 13 ls []) := by
      intro nn
      induction nn with
      | zero => intro f rr k _ hf hr hn hmz; exact absurd hmz (Nat.not_lt_zero _)
      | succ nn ih_13 =>
        intro f rr k _ hf hr hn hms H locs ls hP hD hS hl
        refine lv_dload_n hx hb dX6_doubleBits_13 rfl (lv_at hl 1 rfl) ?_
        refine lv_ldc2d (v := 4611686018427387904) hx hb hown (hts (.constantDouble RX6 334 4611686018427387904) (by decide +kernel)) dX6_doubleBits_14 ?_
        refine lv_dcmp hx hb dX6_doubleBits_17 ?_
        refine lv_if_lt (tgt := 41) hx hb dX6_doubleBits_18 (by decide) (fun c18 => ?_) (fun c18 => ?_)
        · skip
          have lp_41 : ∀ (nn : Nat) (f2 : Nat) (r2 : UInt64) (k2 : Nat), True → (dbO f2 r2 = true) → (dbR f2 r2 = bdR v) → (dbN f2 r2 + k2 = dbN 12 (hvR 14 v)) → f2 < nn → ∀ (H : Heap) (locs : List Loc) (ls : Array Slot), va_P D vwCl (List.flatten []) H → va_D A (List.flatten []) → va_S A s.heap H locs → lv_has ls 5 [(0, .double v), (2, .double r2), (4, .int (nI (hvN 14 v) - nI k2))] → W p l e ({ frames := 0, cells := 0, slots := 0, locals := 0 } : Room) s m ([.double v] : List Value).toArray below meth c H locs 0 0 Q (F0 m 41 ls []) := by
            intro nn
            induction nn with
            | zero => intro f2 r2 k2 _ hg hr2 hn2 hmz; exact absurd hmz (Nat.not_lt_zero _)
            | succ nn ih_41 =>
              intro f2 r2 k2 _ hg hr2 hn2 hms H locs ls hP hD hS hl
              refine lv_dload_n hx hb dX6_doubleBits_41 rfl (lv_at hl 1 rfl) ?_
              refine lv_dconst1 hx hb dX6_doubleBits_42 ?_
              refine lv_dcmp hx hb dX6_doubleBits_43 ?_
              refine lv_if_ge (tgt := 67) hx hb dX6_doubleBits_44 (by decide) (fun c44 => ?_) (fun c44 => ?_)
              · skip
                have hgr := db_er hg hr2 c44
                have hgn := db_ek hg hn2 c44
                refine lv_iload hx hb dX6_doubleBits_67 (lv_at hl 2 rfl) ?_
                refine lv_sipush (v := 1023) hx hb dX6_doubleBits_69 (by decide) ?_
                refine lv_iadd hx hb dX6_doubleBits_72 ?_
                refine lv_i2l (v := ((nI (hvN 14 v) - nI k2) + 1023).toInt64) hx hb dX6_doubleBits_73 rfl ?_
                refine lv_bipush (v := 52) hx hb dX6_doubleBits_74 (by decide) ?_
                refine lv_lshl (v := (((nI (hvN 14 v) - nI k2) + 1023).toInt64) <<< ((52 : Int32).toInt64 &&& 63)) hx hb dX6_doubleBits_76 rfl ?_
                refine lv_dload_n hx hb dX6_doubleBits_77 rfl (lv_at hl 1 rfl) ?_
                refine lv_dconst1 hx hb dX6_doubleBits_78 ?_
                refine lv_dsub hx hb dX6_doubleBits_79 (by rw [hgr]; exact ho3) ?_
                refine lv_ldc2d (v := 4841369599423283200) hx hb hown (hts (.constantDouble RX6 336 4841369599423283200) (by decide +kernel)) dX6_doubleBits_80 ?_
                refine lv_dmul hx hb dX6_doubleBits_83 (by rw [hgr]; exact ho4) ?_
                refine lv_d2l hx hb dX6_doubleBits_84 ?_
                refine lv_ladd hx hb dX6_doubleBits_85 ?_
                refine hend _ _ _ _ _ ?_ hP hD hS dX6_doubleBits_86
                exact bitD_c cz hv14 hv12 hgr hgn
              · skip
                obtain ⟨hg1, -, hg2⟩ := db_u hg
                obtain ⟨hg3, hg4, hg5, hg6⟩ := hg2 c44
                have hk9 := nk_1 hg6 hn2
                refine lv_iload hx hb dX6_doubleBits_47 (lv_at hl 2 rfl) ?_
                refine lv_sipush (v := (-1022)) hx hb dX6_doubleBits_49 (by decide) ?_
                refine lv_icmp_le (tgt := 67) hx hb dX6_doubleBits_52 (by decide) (fun h => absurd h (e_big (by omega) (by omega))) (fun _ => ?_)
                refine lv_dload_n hx hb dX6_doubleBits_55 rfl (lv_at hl 1 rfl) ?_
                refine lv_ldc2d (v := 4611686018427387904) hx hb hown (hts (.constantDouble RX6 334 4611686018427387904) (by decide +kernel)) dX6_doubleBits_56 ?_
                refine lv_dmul hx hb dX6_doubleBits_59 hg3 ?_
                refine lv_dstore_n (lv' := [(2, .double (FP.dmul r2 4611686018427387904)), (0, .double v), (4, .int (nI (hvN 14 v) - nI k2))]) hx hb dX6_doubleBits_60 rfl hl (by decide) rfl (fun ls hl => ?_)
                refine lv_iinc (v := (nI (hvN 14 v) - nI k2) + (-1)) (lv' := [(4, .int ((nI (hvN 14 v) - nI k2) + (-1))), (2, .double (FP.dmul r2 4611686018427387904)), (0, .double v)]) hx hb dX6_doubleBits_61 hl (k := 2) rfl (rfl) (by decide) rfl (fun ls hl => ?_)
                refine lv_goto (tgt := 41) hx hb dX6_doubleBits_64 (by decide) ?_
                have hl : lv_has ls 5 [(4, .int (nI (hvN 14 v) - nI (k2 + 1))), (2, .double (FP.dmul r2 4611686018427387904)), (0, .double v)] := lv_re hl 0 (x := (nI (hvN 14 v) - nI k2) + (-1)) (y := nI (hvN 14 v) - nI (k2 + 1)) rfl (e_dec _ _) rfl
                exact ih_41  (f2 - 1) (FP.dmul r2 4611686018427387904) (k2 + 1) trivial hg4 (hg5.symm.trans hr2) hk9 (by omega) _ _ _ hP hD hS (lv_sub hl [2, 1, 0] rfl)
          have hl : lv_has ls 5 [(0, .double v), (2, .double rr), (4, .int (nI (hvN 14 v) - nI 0))] := lv_reg hl 2 (x := .int (nI k)) (y := .int (nI (hvN 14 v) - nI 0)) rfl (congrArg Value.int (by rw [hv_ek hf hn c18]; exact e_00 _)) rfl
          exact lp_41 (12 + 1) 12 rr 0 trivial (by rw [← hv_er hf hr c18]; exact ho2) (by unfold bdR; rw [hv_er hf hr c18]) (by rw [hv_er hf hr c18]; rfl) (Nat.lt_succ_self _) _ _ _ hP hD hS (lv_sub hl [0, 1, 2] rfl)
        · skip
          obtain ⟨hf1, -, hf2⟩ := hv_u hf
          obtain ⟨hf3, hf4, hf5, hf6⟩ := hf2 c18
          have hk9 := nk_1 hf6 hn
          refine lv_iload hx hb dX6_doubleBits_21 (lv_at hl 2 rfl) ?_
          refine lv_sipush (v := 1023) hx hb dX6_doubleBits_23 (by decide) ?_
          refine n_ge (i := k) (j := 1023) (tgt := 41) hx hb (by omega) (by omega) dX6_doubleBits_26 (by decide) (fun h => absurd h (by omega)) (fun _ => ?_)
          refine lv_dload_n hx hb dX6_doubleBits_29 rfl (lv_at hl 1 rfl) ?_
          refine lv_ldc2d (v := 4611686018427387904) hx hb hown (hts (.constantDouble RX6 334 4611686018427387904) (by decide +kernel)) dX6_doubleBits_30 ?_
          refine lv_ddiv hx hb dX6_doubleBits_33 hf3 ?_
          refine lv_dstore_n (lv' := [(2, .double (FP.ddiv rr 4611686018427387904)), (0, .double v), (4, .int (nI k))]) hx hb dX6_doubleBits_34 rfl hl (by decide) rfl (fun ls hl => ?_)
          refine lv_iinc (v := nI (k + 1)) (lv' := [(4, .int (nI (k + 1))), (2, .double (FP.ddiv rr 4611686018427387904)), (0, .double v)]) hx hb dX6_doubleBits_35 hl (k := 2) rfl (nI_add _ _) (by decide) rfl (fun ls hl => ?_)
          refine lv_goto (tgt := 13) hx hb dX6_doubleBits_38 (by decide) ?_
          exact ih_13  (f - 1) (FP.ddiv rr 4611686018427387904) (k + 1) trivial hf4 (hf5.symm.trans hr) hk9 (by omega) _ _ _ hP hD hS (lv_sub hl [2, 1, 0] rfl)
    exact lp_13 (14 + 1) 14 v 0 trivial ho1 rfl rfl (Nat.lt_succ_self _) _ _ _ hP hD hS (lv_sub hl [2, 1, 0] rfl)
  · skip
    refine lv_lconst (v := 0) hx hb dX6_doubleBits_6 (by decide) ?_
    refine hend _ _ _ _ _ ?_ hP hD hS dX6_doubleBits_7
    exact (if_pos ((okD_z hv).mp (Int32.not_lt.mp c3))).symm

set_option maxHeartbeats 4000000 in
set_option maxRecDepth 100000 in
theorem c_X6_floatBits (l : Launch) (D : va_G) (cI cZ cS cJ : ClassId) (v : UInt32) (hv : okF v = true) : C0 l yX6_floatBits wsX6_floatBits ({ frames := 0, cells := 0, slots := 0, locals := 0 }) D (tyL cI cZ cS cJ) [.float v] (List.flatten []) (some (.int (bitF v))) (List.flatten []) 0 0 := by
  refine C0_int (cc := cX6_floatBits) (maxL := 3) (rt := .int) (by decide) rfl (Nat.le_of_ble_eq_true rfl) (rfl) ?_
  intro p e s m below meth c A ls Q X hK hP hD hS hA hl hend
  have X : CallFix p m c cX6_floatBits 3 s ([.float v] : List Value).toArray wsX6_floatBits RX6 := X
  obtain ⟨hx, hb, hml, hown, hts⟩ := id X
  have hl : lv_has ls 3 [(0, .float v)] := hl
  refine lv_fload_n hx hb dX6_floatBits_0 rfl (lv_at hl 0 rfl) ?_
  refine lv_fconst0 hx hb dX6_floatBits_1 ?_
  refine lv_fcmp hx hb dX6_floatBits_2 ?_
  refine lv_if_gt (tgt := 8) hx hb dX6_floatBits_3 (by decide) (fun c3 => ?_) (fun c3 => ?_)
  · skip
    have cz : ¬ Op.cmpValue (FP.fcmp v FP.fconst0) CmpOp.l = 0 := fun q => absurd c3 (Int32.not_lt.mpr ((okF_z hv).mpr q))
    obtain ⟨ho1, ho3, ho4, -⟩ := okF_y hv cz
    have hle := fbN_le 120 v
    refine lv_fload_n hx hb dX6_floatBits_8 rfl (lv_at hl 0 rfl) ?_
    refine lv_fstore_n (lv' := [(1, .float v), (0, .float v)]) hx hb dX6_floatBits_9 rfl hl (by decide) rfl (fun ls hl => ?_)
    refine lv_iconst (v := 0) hx hb dX6_floatBits_10 (by decide) ?_
    refine lv_istore_n (lv' := [(2, .int 0), (1, .float v), (0, .float v)]) hx hb dX6_floatBits_11 rfl hl (by decide) rfl (fun ls hl => ?_)
    have lp_12 : ∀ (nn : Nat) (f2 : Nat) (r2 : UInt32) (k2 : Nat), True → (fbO f2 r2 = true) → (fbR f2 r2 = fbR 120 v) → (fbN f2 r2 + k2 = fbN 120 v) → f2 < nn → ∀ (H : Heap) (locs : List Loc) (ls : Array Slot), va_P D vwCl (List.flatten []) H → va_D A (List.flatten []) → va_S A s.heap H locs → lv_has ls 3 [(0, .float v), (1, .float r2), (2, .int (0 - nI k2))] → W p l e ({ frames := 0, cells := 0, slots := 0, locals := 0 } : Room) s m ([.float v] : List Value).toArray below meth c H locs 0 0 Q (F0 m 12 ls []) := by
      intro nn
      induction nn with
      | zero => intro f2 r2 k2 _ hg hr2 hn2 hmz; exact absurd hmz (Nat.not_lt_zero _)
      | succ nn ih_12 =>
        intro f2 r2 k2 _ hg hr2 hn2 hms H locs ls hP hD hS hl
        refine lv_fload_n hx hb dX6_floatBits_12 rfl (lv_at hl 1 rfl) ?_
        refine lv_fconst1 hx hb dX6_floatBits_13 ?_
        refine lv_fcmp hx hb dX6_floatBits_14 ?_
        refine lv_if_ge (tgt := 34) hx hb dX6_floatBits_15 (by decide) (fun c15 => ?_) (fun c15 => ?_)
        · skip
          have hgr := fb_er hg hr2 c15
          have hgn := fb_ek hg hn2 c15
          refine lv_iload_n hx hb dX6_floatBits_34 rfl (lv_at hl 2 rfl) ?_
          refine lv_bipush (v := 127) hx hb dX6_floatBits_35 (by decide) ?_
          refine lv_iadd hx hb dX6_floatBits_37 ?_
          refine lv_bipush (v := 23) hx hb dX6_floatBits_38 (by decide) ?_
          refine lv_ishl hx hb dX6_floatBits_40 ?_
          refine lv_fload_n hx hb dX6_floatBits_41 rfl (lv_at hl 1 rfl) ?_
          refine lv_fconst1 hx hb dX6_floatBits_42 ?_
          refine lv_fsub hx hb dX6_floatBits_43 (by rw [hgr]; exact ho3) ?_
          refine lv_ldcfw (v := 1258291200) hx hb hown (hts (.constantFloat RX6 338 1258291200) (by decide +kernel)) dX6_floatBits_44 ?_
          refine lv_fmul hx hb dX6_floatBits_47 (by rw [hgr]; exact ho4) ?_
          refine lv_f2i hx hb dX6_floatBits_48 ?_
          refine lv_iadd hx hb dX6_floatBits_49 ?_
          refine hend _ _ _ _ _ ?_ hP hD hS dX6_floatBits_50
          exact bitF_c cz hle hgr hgn
        · skip
          obtain ⟨hg1, -, hg2⟩ := fb_u hg
          obtain ⟨hg3, hg4, hg5, hg6⟩ := hg2 c15
          have hk9 := nk_1 hg6 hn2
          refine lv_iload_n hx hb dX6_floatBits_18 rfl (lv_at hl 2 rfl) ?_
          refine lv_bipush (v := (-126)) hx hb dX6_floatBits_19 (by decide) ?_
          refine lv_icmp_le (tgt := 34) hx hb dX6_floatBits_21 (by decide) (fun h => absurd h (e_big2 (by omega))) (fun _ => ?_)
          refine lv_fload_n hx hb dX6_floatBits_24 rfl (lv_at hl 1 rfl) ?_
          refine lv_fconst2 hx hb dX6_floatBits_25 ?_
          refine lv_fmul hx hb dX6_floatBits_26 hg3 ?_
          refine lv_fstore_n (lv' := [(1, .float (FP.fmul r2 FP.fconst2)), (0, .float v), (2, .int (0 - nI k2))]) hx hb dX6_floatBits_27 rfl hl (by decide) rfl (fun ls hl => ?_)
          refine lv_iinc (v := (0 - nI k2) + (-1)) (lv' := [(2, .int ((0 - nI k2) + (-1))), (1, .float (FP.fmul r2 FP.fconst2)), (0, .float v)]) hx hb dX6_floatBits_28 hl (k := 2) rfl (rfl) (by decide) rfl (fun ls hl => ?_)
          refine lv_goto (tgt := 12) hx hb dX6_floatBits_31 (by decide) ?_
          have hl : lv_has ls 3 [(2, .int (0 - nI (k2 + 1))), (1, .float (FP.fmul r2 FP.fconst2)), (0, .float v)] := lv_re hl 0 (x := (0 - nI k2) + (-1)) (y := 0 - nI (k2 + 1)) rfl (e_dec _ _) rfl
          exact ih_12  (f2 - 1) (FP.fmul r2 FP.fconst2) (k2 + 1) trivial hg4 (hg5.symm.trans hr2) hk9 (by omega) _ _ _ hP hD hS (lv_sub hl [2, 1, 0] rfl)
    have hl : lv_has ls 3 [(2, .int (0 - nI 0)), (1, .float v), (0, .float v)] := lv_reg hl 0 (x := .int 0) (y := .int (0 - nI 0)) rfl (congrArg Value.int (e_00 0)) rfl
    exact lp_12 (120 + 1) 120 v 0 trivial ho1 rfl rfl (Nat.lt_succ_self _) _ _ _ hP hD hS (lv_sub hl [2, 1, 0] rfl)
  · skip
    refine lv_iconst (v := 0) hx hb dX6_floatBits_6 (by decide) ?_
    refine hend _ _ _ _ _ ?_ hP hD hS dX6_floatBits_7
    exact (if_pos ((okF_z hv).mp (Int32.not_lt.mp c3))).symm

set_option maxHeartbeats 4000000 in
set_option maxRecDepth 100000 in
theorem c_X6_checkBalloonT (l : Launch) (D : va_G) (cI cZ cS cJ : ClassId) (hl9 : l.stackTraces = false) (x : Int32) (hT : ¬ isB x) : CT l yX6_checkBalloon wsX6_checkBalloon ({ frames := 6, cells := 1, slots := 6, locals := 82 }) D (tyL cI cZ cS cJ) [.int x] (List.flatten []) xcI := by
  refine CT_gen (cc := cX6_checkBalloon) (maxL := 1) (ret := none) (by decide) rfl (Nat.le_of_ble_eq_true rfl) ?_
  intro p e s m below meth c ls X hK hP hD hS hA hl hZ ht hlk
  have X : CallFix p m c cX6_checkBalloon 1 s ([.int x] : List Value).toArray wsX6_checkBalloon RX6 := X
  obtain ⟨hx, hb, hml, hown, hts⟩ := id X
  have hl : lv_has ls 1 [(0, .int x)] := hl
  refine lv_iload_n hx hb dX6_checkBalloon_0 rfl (lv_at hl 0 rfl) ?_
  refine lv_if_lt (tgt := 10) hx hb dX6_checkBalloon_1 (by decide) (fun c1 => ?_) (fun c1 => ?_)
  · skip
    obtain ⟨sa, hstr⟩ := hZ.2.1.2.2.2.2.2.1
    exact T_thrW X hl9 hK hZ ht hlk hP hD hS hZ.1.2.1.1 hstr (by decide +kernel) (by decide +kernel) (by decide +kernel) (by decide +kernel) (by decide +kernel) (by decide +kernel) hl.1 dX6_checkBalloon_10 dX6_checkBalloon_13 dX6_checkBalloon_14 dX6_checkBalloon_17 dX6_checkBalloon_20 ⟨Nat.le_of_ble_eq_true rfl, Nat.le_of_ble_eq_true rfl, Nat.le_of_ble_eq_true rfl, Nat.le_of_ble_eq_true rfl⟩ ⟨rfl, rfl⟩
  · skip
    refine lv_iload_n hx hb dX6_checkBalloon_4 rfl (lv_at hl 0 rfl) ?_
    refine lv_bipush (v := 8) hx hb dX6_checkBalloon_5 (by decide) ?_
    refine lv_icmp_lt (tgt := 21) hx hb dX6_checkBalloon_7 (by decide) (fun h => absurd h (nB8 hT c1)) (fun _ => ?_)
    obtain ⟨sa, hstr⟩ := hZ.2.1.2.2.2.2.2.1
    exact T_thrW X hl9 hK hZ ht hlk hP hD hS hZ.1.2.1.1 hstr (by decide +kernel) (by decide +kernel) (by decide +kernel) (by decide +kernel) (by decide +kernel) (by decide +kernel) hl.1 dX6_checkBalloon_10 dX6_checkBalloon_13 dX6_checkBalloon_14 dX6_checkBalloon_17 dX6_checkBalloon_20 ⟨Nat.le_of_ble_eq_true rfl, Nat.le_of_ble_eq_true rfl, Nat.le_of_ble_eq_true rfl, Nat.le_of_ble_eq_true rfl⟩ ⟨rfl, rfl⟩

set_option maxHeartbeats 4000000 in
set_option maxRecDepth 100000 in
theorem c_X6_checkRibbonT (l : Launch) (D : va_G) (cI cZ cS cJ : ClassId) (hl9 : l.stackTraces = false) (x : Int32) (hT : ¬ isR x) : CT l yX6_checkRibbon wsX6_checkRibbon ({ frames := 6, cells := 1, slots := 6, locals := 82 }) D (tyL cI cZ cS cJ) [.int x] (List.flatten []) xcI := by
  refine CT_gen (cc := cX6_checkRibbon) (maxL := 1) (ret := none) (by decide) rfl (Nat.le_of_ble_eq_true rfl) ?_
  intro p e s m below meth c ls X hK hP hD hS hA hl hZ ht hlk
  have X : CallFix p m c cX6_checkRibbon 1 s ([.int x] : List Value).toArray wsX6_checkRibbon RX6 := X
  obtain ⟨hx, hb, hml, hown, hts⟩ := id X
  have hl : lv_has ls 1 [(0, .int x)] := hl
  refine lv_iload_n hx hb dX6_checkRibbon_0 rfl (lv_at hl 0 rfl) ?_
  refine lv_if_lt (tgt := 10) hx hb dX6_checkRibbon_1 (by decide) (fun c1 => ?_) (fun c1 => ?_)
  · skip
    obtain ⟨sa, hstr⟩ := hZ.2.1.2.2.2.2.2.2.1
    exact T_thrW X hl9 hK hZ ht hlk hP hD hS hZ.1.2.1.1 hstr (by decide +kernel) (by decide +kernel) (by decide +kernel) (by decide +kernel) (by decide +kernel) (by decide +kernel) hl.1 dX6_checkRibbon_10 dX6_checkRibbon_13 dX6_checkRibbon_14 dX6_checkRibbon_17 dX6_checkRibbon_20 ⟨Nat.le_of_ble_eq_true rfl, Nat.le_of_ble_eq_true rfl, Nat.le_of_ble_eq_true rfl, Nat.le_of_ble_eq_true rfl⟩ ⟨rfl, rfl⟩
  · skip
    refine lv_iload_n hx hb dX6_checkRibbon_4 rfl (lv_at hl 0 rfl) ?_
    refine lv_bipush (v := 7) hx hb dX6_checkRibbon_5 (by decide) ?_
    refine lv_icmp_lt (tgt := 21) hx hb dX6_checkRibbon_7 (by decide) (fun h => absurd h (nR7 hT c1)) (fun _ => ?_)
    obtain ⟨sa, hstr⟩ := hZ.2.1.2.2.2.2.2.2.1
    exact T_thrW X hl9 hK hZ ht hlk hP hD hS hZ.1.2.1.1 hstr (by decide +kernel) (by decide +kernel) (by decide +kernel) (by decide +kernel) (by decide +kernel) (by decide +kernel) hl.1 dX6_checkRibbon_10 dX6_checkRibbon_13 dX6_checkRibbon_14 dX6_checkRibbon_17 dX6_checkRibbon_20 ⟨Nat.le_of_ble_eq_true rfl, Nat.le_of_ble_eq_true rfl, Nat.le_of_ble_eq_true rfl, Nat.le_of_ble_eq_true rfl⟩ ⟨rfl, rfl⟩

set_option maxHeartbeats 4000000 in
set_option maxRecDepth 100000 in
theorem c_X6_checkRangeT (l : Launch) (D : va_G) (cI cZ cS cJ : ClassId) (hl9 : l.stackTraces = false) (x : Int32) (lo : Int32) (hi : Int32) (hT : ¬ inR x lo hi) : CT l yX6_checkRange wsX6_checkRange ({ frames := 6, cells := 1, slots := 6, locals := 82 }) D (tyL cI cZ cS cJ) [.int x, .int lo, .int hi] (List.flatten []) xcA := by
  refine CT_gen (cc := cX6_checkRange) (maxL := 3) (ret := none) (by decide) rfl (Nat.le_of_ble_eq_true rfl) ?_
  intro p e s m below meth c ls X hK hP hD hS hA hl hZ ht hlk
  have X : CallFix p m c cX6_checkRange 3 s ([.int x, .int lo, .int hi] : List Value).toArray wsX6_checkRange RX6 := X
  obtain ⟨hx, hb, hml, hown, hts⟩ := id X
  have hl : lv_has ls 3 [(0, .int x), (1, .int lo), (2, .int hi)] := hl
  refine lv_iload_n hx hb dX6_checkRange_0 rfl (lv_at hl 0 rfl) ?_
  refine lv_iload_n hx hb dX6_checkRange_1 rfl (lv_at hl 1 rfl) ?_
  refine lv_icmp_lt (tgt := 10) hx hb dX6_checkRange_2 (by decide) (fun c2 => ?_) (fun c2 => ?_)
  · skip
    obtain ⟨sa, hstr⟩ := hZ.2.1.2.2.2.2.2.2.2.1
    exact T_thrW X hl9 hK hZ ht hlk hP hD hS hZ.1.2.1.2.1 hstr (by decide +kernel) (by decide +kernel) (by decide +kernel) (by decide +kernel) (by decide +kernel) (by decide +kernel) hl.1 dX6_checkRange_10 dX6_checkRange_13 dX6_checkRange_14 dX6_checkRange_17 dX6_checkRange_20 ⟨Nat.le_of_ble_eq_true rfl, Nat.le_of_ble_eq_true rfl, Nat.le_of_ble_eq_true rfl, Nat.le_of_ble_eq_true rfl⟩ ⟨rfl, rfl⟩
  · skip
    refine lv_iload_n hx hb dX6_checkRange_5 rfl (lv_at hl 0 rfl) ?_
    refine lv_iload_n hx hb dX6_checkRange_6 rfl (lv_at hl 2 rfl) ?_
    refine lv_icmp_le (tgt := 21) hx hb dX6_checkRange_7 (by decide) (fun h => absurd h (nRg hT c2)) (fun _ => ?_)
    obtain ⟨sa, hstr⟩ := hZ.2.1.2.2.2.2.2.2.2.1
    exact T_thrW X hl9 hK hZ ht hlk hP hD hS hZ.1.2.1.2.1 hstr (by decide +kernel) (by decide +kernel) (by decide +kernel) (by decide +kernel) (by decide +kernel) (by decide +kernel) hl.1 dX6_checkRange_10 dX6_checkRange_13 dX6_checkRange_14 dX6_checkRange_17 dX6_checkRange_20 ⟨Nat.le_of_ble_eq_true rfl, Nat.le_of_ble_eq_true rfl, Nat.le_of_ble_eq_true rfl, Nat.le_of_ble_eq_true rfl⟩ ⟨rfl, rfl⟩

set_option maxHeartbeats 4000000 in
set_option maxRecDepth 100000 in
theorem c_X6_perform0T (l : Launch) (D : va_G) (cI cZ cS cJ : ClassId) (hl9 : l.stackTraces = false) (x0 : Nat) (p0 : Nat) (q0 : Nat) (t0 : Nat) (k0 : Nat) (f0 : Nat) (w0 : Int32) (a : Nat → Nat) (S : Nat → Nat → Int32) (b : Nat) (x : Int32) (hb8 : b < 8) (hw : ¬ wn0 S b x = 0) : CT l yX6_perform wsX6_perform ({ frames := 6, cells := 1, slots := 6, locals := 82 }) D (tyL cI cZ cS cJ) [.ref x0, .int 0, .int (nI b), .int x] (List.flatten [rbC x0 (a 0) p0 q0 t0 k0 f0 w0, stO a (S 12 0) (S 12 1) (S 12 2) (S 12 3) (S 12 4) (S 12 5) (S 12 6) (S 12 7), flX cI cZ (a 1) (a 2) (a 3) (a 4) (a 5) (a 6) (a 7) (a 8) (S 0) (S 1) (S 2) (S 3) (S 4) (S 5) (S 6), ntX cI (a 9) (a 10) (a 11) (a 12) (S 7) (S 8) (S 9) (S 12 8), daX cI (a 13) (a 14) (S 10) (S 11)]) xcS := by
  refine CT_gen (cc := cX6_perform) (maxL := 4) (ret := none) (by decide) rfl (Nat.le_of_ble_eq_true rfl) ?_
  intro p e s m below meth c ls X hK hP hD hS hA hl hZ ht hlk
  have X : CallFix p m c cX6_perform 4 s ([.ref x0, .int 0, .int (nI b), .int x] : List Value).toArray wsX6_perform RX6 := X
  obtain ⟨hx, hb, hml, hown, hts⟩ := id X
  have hl : lv_has ls 4 [(0, .ref x0), (1, .int 0), (2, .int (nI b)), (3, .int x)] := hl
  have hinX4 : ∀ w ∈ u_ws RX4 TX4 12, w ∈ wsX6_perform := by decide +kernel
  have hinX6 : ∀ w ∈ u_ws RX6 TX6 7, w ∈ wsX6_perform := by decide +kernel
  refine lv_aload_n hx hb dX6_perform_0 rfl (lv_at hl 0 rfl) ?_
  refine va_get (D := D) (ci := 6) (v := .ref (a 0)) (C := RX6) (T := TX6) (N := 7) hx hb hts hinX6 hown hK hP 0 rfl rfl 0 (by decide) (hts (.fieldLink RX6 12 "RibbonBalloons" "now" "LRibbonBalloons$State;") (by decide +kernel)) (fun _ h9 => h9) rfl dX6_perform_1 ?_
  refine va_get (D := D) (ci := 4) (v := .ref (a 1)) (C := RX4) (T := TX4) (N := 12) hx hb hts hinX4 hown hK hP 1 rfl rfl 0 (by decide) (hts (.fieldLink RX6 62 "RibbonBalloons$State" "flock" "LRibbonBalloons$Flock;") (by decide +kernel)) (fun _ h9 => h9) rfl dX6_perform_4 ?_
  refine lv_iload_n hx hb dX6_perform_7 rfl (lv_at hl 1 rfl) ?_
  refine lv_iload_n hx hb dX6_perform_8 rfl (lv_at hl 2 rfl) ?_
  refine lv_iload_n hx hb dX6_perform_9 rfl (lv_at hl 3 rfl) ?_
  refine kcallV (As := [.int 0, .int (nI b), .int x]) (rest := []) (Wn := [rbC x0 (a 0) p0 q0 t0 k0 f0 w0, stO a (S 12 0) (S 12 1) (S 12 2) (S 12 3) (S 12 4) (S 12 5) (S 12 6) (S 12 7), flX cI cZ (a 1) (a 2) (a 3) (a 4) (a 5) (a 6) (a 7) (a 8) (S 0) (S 1) (S 2) (S 3) (S 4) (S 5) (S 6), ntX cI (a 9) (a 10) (a 11) (a 12) (S 7) (S 8) (S 9) (S 12 8), daX cI (a 13) (a 14) (S 10) (S 11)]) X (c_X0_whyNot0 l D cI cZ cS cJ (a 1) (a 2) (a 3) (a 4) (a 5) (a 6) (a 7) (a 8) S b x (by omega)) (cwV 3 hts gX6_perform_X0_whyNot rfl rfl rfl (by decide +kernel) ⟨Nat.le_of_ble_eq_true rfl, Nat.le_of_ble_eq_true rfl⟩) hK hP hD hS hA [2] rfl (by decide +kernel) rfl rfl rfl 2 0 rfl rfl rfl hl.1 rfl (Nat.le_of_ble_eq_true rfl) dX6_perform_10 ⟨Nat.le_of_ble_eq_true rfl, Nat.le_of_ble_eq_true rfl⟩ (fun H locs hP hD hS => ?_)
  refine lv_if_eq (tgt := 27) hx hb dX6_perform_13 (by decide) (fun h => absurd h hw) (fun _ => ?_)
  obtain ⟨sa, hstr⟩ := hZ.2.1.2.2.2.2.2.2.2.2
  exact T_thrW X hl9 hK hZ ht hlk hP hD hS hZ.1.2.1.2.2 hstr (by decide +kernel) (by decide +kernel) (by decide +kernel) (by decide +kernel) (by decide +kernel) (by decide +kernel) hl.1 dX6_perform_16 dX6_perform_19 dX6_perform_20 dX6_perform_23 dX6_perform_26 ⟨Nat.le_of_ble_eq_true rfl, Nat.le_of_ble_eq_true rfl, Nat.le_of_ble_eq_true rfl, Nat.le_of_ble_eq_true rfl⟩ ⟨rfl, rfl⟩

set_option maxHeartbeats 4000000 in
set_option maxRecDepth 100000 in
theorem c_X6_perform1T (l : Launch) (D : va_G) (cI cZ cS cJ : ClassId) (hl9 : l.stackTraces = false) (x0 : Nat) (p0 : Nat) (q0 : Nat) (t0 : Nat) (k0 : Nat) (f0 : Nat) (w0 : Int32) (a : Nat → Nat) (S : Nat → Nat → Int32) (b : Nat) (x : Int32) (hb8 : b < 8) (hw : ¬ wn1 S b x = 0) : CT l yX6_perform wsX6_perform ({ frames := 6, cells := 1, slots := 6, locals := 82 }) D (tyL cI cZ cS cJ) [.ref x0, .int 1, .int (nI b), .int x] (List.flatten [rbC x0 (a 0) p0 q0 t0 k0 f0 w0, stO a (S 12 0) (S 12 1) (S 12 2) (S 12 3) (S 12 4) (S 12 5) (S 12 6) (S 12 7), flX cI cZ (a 1) (a 2) (a 3) (a 4) (a 5) (a 6) (a 7) (a 8) (S 0) (S 1) (S 2) (S 3) (S 4) (S 5) (S 6), ntX cI (a 9) (a 10) (a 11) (a 12) (S 7) (S 8) (S 9) (S 12 8), daX cI (a 13) (a 14) (S 10) (S 11)]) xcS := by
  refine CT_gen (cc := cX6_perform) (maxL := 4) (ret := none) (by decide) rfl (Nat.le_of_ble_eq_true rfl) ?_
  intro p e s m below meth c ls X hK hP hD hS hA hl hZ ht hlk
  have X : CallFix p m c cX6_perform 4 s ([.ref x0, .int 1, .int (nI b), .int x] : List Value).toArray wsX6_perform RX6 := X
  obtain ⟨hx, hb, hml, hown, hts⟩ := id X
  have hl : lv_has ls 4 [(0, .ref x0), (1, .int 1), (2, .int (nI b)), (3, .int x)] := hl
  have hinX4 : ∀ w ∈ u_ws RX4 TX4 12, w ∈ wsX6_perform := by decide +kernel
  have hinX6 : ∀ w ∈ u_ws RX6 TX6 7, w ∈ wsX6_perform := by decide +kernel
  refine lv_aload_n hx hb dX6_perform_0 rfl (lv_at hl 0 rfl) ?_
  refine va_get (D := D) (ci := 6) (v := .ref (a 0)) (C := RX6) (T := TX6) (N := 7) hx hb hts hinX6 hown hK hP 0 rfl rfl 0 (by decide) (hts (.fieldLink RX6 12 "RibbonBalloons" "now" "LRibbonBalloons$State;") (by decide +kernel)) (fun _ h9 => h9) rfl dX6_perform_1 ?_
  refine va_get (D := D) (ci := 4) (v := .ref (a 1)) (C := RX4) (T := TX4) (N := 12) hx hb hts hinX4 hown hK hP 1 rfl rfl 0 (by decide) (hts (.fieldLink RX6 62 "RibbonBalloons$State" "flock" "LRibbonBalloons$Flock;") (by decide +kernel)) (fun _ h9 => h9) rfl dX6_perform_4 ?_
  refine lv_iload_n hx hb dX6_perform_7 rfl (lv_at hl 1 rfl) ?_
  refine lv_iload_n hx hb dX6_perform_8 rfl (lv_at hl 2 rfl) ?_
  refine lv_iload_n hx hb dX6_perform_9 rfl (lv_at hl 3 rfl) ?_
  refine kcallV (As := [.int 1, .int (nI b), .int x]) (rest := []) (Wn := [rbC x0 (a 0) p0 q0 t0 k0 f0 w0, stO a (S 12 0) (S 12 1) (S 12 2) (S 12 3) (S 12 4) (S 12 5) (S 12 6) (S 12 7), flX cI cZ (a 1) (a 2) (a 3) (a 4) (a 5) (a 6) (a 7) (a 8) (S 0) (S 1) (S 2) (S 3) (S 4) (S 5) (S 6), ntX cI (a 9) (a 10) (a 11) (a 12) (S 7) (S 8) (S 9) (S 12 8), daX cI (a 13) (a 14) (S 10) (S 11)]) X (c_X0_whyNot1 l D cI cZ cS cJ (a 1) (a 2) (a 3) (a 4) (a 5) (a 6) (a 7) (a 8) S b x (by omega)) (cwV 3 hts gX6_perform_X0_whyNot rfl rfl rfl (by decide +kernel) ⟨Nat.le_of_ble_eq_true rfl, Nat.le_of_ble_eq_true rfl⟩) hK hP hD hS hA [2] rfl (by decide +kernel) rfl rfl rfl 2 0 rfl rfl rfl hl.1 rfl (Nat.le_of_ble_eq_true rfl) dX6_perform_10 ⟨Nat.le_of_ble_eq_true rfl, Nat.le_of_ble_eq_true rfl⟩ (fun H locs hP hD hS => ?_)
  refine lv_if_eq (tgt := 27) hx hb dX6_perform_13 (by decide) (fun h => absurd h hw) (fun _ => ?_)
  obtain ⟨sa, hstr⟩ := hZ.2.1.2.2.2.2.2.2.2.2
  exact T_thrW X hl9 hK hZ ht hlk hP hD hS hZ.1.2.1.2.2 hstr (by decide +kernel) (by decide +kernel) (by decide +kernel) (by decide +kernel) (by decide +kernel) (by decide +kernel) hl.1 dX6_perform_16 dX6_perform_19 dX6_perform_20 dX6_perform_23 dX6_perform_26 ⟨Nat.le_of_ble_eq_true rfl, Nat.le_of_ble_eq_true rfl, Nat.le_of_ble_eq_true rfl, Nat.le_of_ble_eq_true rfl⟩ ⟨rfl, rfl⟩

set_option maxHeartbeats 4000000 in
set_option maxRecDepth 100000 in
theorem c_X6_perform2T (l : Launch) (D : va_G) (cI cZ cS cJ : ClassId) (hl9 : l.stackTraces = false) (x0 : Nat) (p0 : Nat) (q0 : Nat) (t0 : Nat) (k0 : Nat) (f0 : Nat) (w0 : Int32) (a : Nat → Nat) (S : Nat → Nat → Int32) (b : Nat) (hb8 : b < 8) (hw : ¬ wn2 S b = 0) : CT l yX6_perform wsX6_perform ({ frames := 6, cells := 1, slots := 6, locals := 82 }) D (tyL cI cZ cS cJ) [.ref x0, .int 2, .int (nI b), .int 1] (List.flatten [rbC x0 (a 0) p0 q0 t0 k0 f0 w0, stO a (S 12 0) (S 12 1) (S 12 2) (S 12 3) (S 12 4) (S 12 5) (S 12 6) (S 12 7), flX cI cZ (a 1) (a 2) (a 3) (a 4) (a 5) (a 6) (a 7) (a 8) (S 0) (S 1) (S 2) (S 3) (S 4) (S 5) (S 6), ntX cI (a 9) (a 10) (a 11) (a 12) (S 7) (S 8) (S 9) (S 12 8), daX cI (a 13) (a 14) (S 10) (S 11)]) xcS := by
  refine CT_gen (cc := cX6_perform) (maxL := 4) (ret := none) (by decide) rfl (Nat.le_of_ble_eq_true rfl) ?_
  intro p e s m below meth c ls X hK hP hD hS hA hl hZ ht hlk
  have X : CallFix p m c cX6_perform 4 s ([.ref x0, .int 2, .int (nI b), .int 1] : List Value).toArray wsX6_perform RX6 := X
  obtain ⟨hx, hb, hml, hown, hts⟩ := id X
  have hl : lv_has ls 4 [(0, .ref x0), (1, .int 2), (2, .int (nI b)), (3, .int 1)] := hl
  have hinX4 : ∀ w ∈ u_ws RX4 TX4 12, w ∈ wsX6_perform := by decide +kernel
  have hinX6 : ∀ w ∈ u_ws RX6 TX6 7, w ∈ wsX6_perform := by decide +kernel
  refine lv_aload_n hx hb dX6_perform_0 rfl (lv_at hl 0 rfl) ?_
  refine va_get (D := D) (ci := 6) (v := .ref (a 0)) (C := RX6) (T := TX6) (N := 7) hx hb hts hinX6 hown hK hP 0 rfl rfl 0 (by decide) (hts (.fieldLink RX6 12 "RibbonBalloons" "now" "LRibbonBalloons$State;") (by decide +kernel)) (fun _ h9 => h9) rfl dX6_perform_1 ?_
  refine va_get (D := D) (ci := 4) (v := .ref (a 1)) (C := RX4) (T := TX4) (N := 12) hx hb hts hinX4 hown hK hP 1 rfl rfl 0 (by decide) (hts (.fieldLink RX6 62 "RibbonBalloons$State" "flock" "LRibbonBalloons$Flock;") (by decide +kernel)) (fun _ h9 => h9) rfl dX6_perform_4 ?_
  refine lv_iload_n hx hb dX6_perform_7 rfl (lv_at hl 1 rfl) ?_
  refine lv_iload_n hx hb dX6_perform_8 rfl (lv_at hl 2 rfl) ?_
  refine lv_iload_n hx hb dX6_perform_9 rfl (lv_at hl 3 rfl) ?_
  refine kcallV (As := [.int 2, .int (nI b), .int 1]) (rest := []) (Wn := [rbC x0 (a 0) p0 q0 t0 k0 f0 w0, stO a (S 12 0) (S 12 1) (S 12 2) (S 12 3) (S 12 4) (S 12 5) (S 12 6) (S 12 7), flX cI cZ (a 1) (a 2) (a 3) (a 4) (a 5) (a 6) (a 7) (a 8) (S 0) (S 1) (S 2) (S 3) (S 4) (S 5) (S 6), ntX cI (a 9) (a 10) (a 11) (a 12) (S 7) (S 8) (S 9) (S 12 8), daX cI (a 13) (a 14) (S 10) (S 11)]) X (c_X0_whyNot2 l D cI cZ cS cJ (a 1) (a 2) (a 3) (a 4) (a 5) (a 6) (a 7) (a 8) S b 1 (by omega)) (cwV 3 hts gX6_perform_X0_whyNot rfl rfl rfl (by decide +kernel) ⟨Nat.le_of_ble_eq_true rfl, Nat.le_of_ble_eq_true rfl⟩) hK hP hD hS hA [2] rfl (by decide +kernel) rfl rfl rfl 2 0 rfl rfl rfl hl.1 rfl (Nat.le_of_ble_eq_true rfl) dX6_perform_10 ⟨Nat.le_of_ble_eq_true rfl, Nat.le_of_ble_eq_true rfl⟩ (fun H locs hP hD hS => ?_)
  refine lv_if_eq (tgt := 27) hx hb dX6_perform_13 (by decide) (fun h => absurd h hw) (fun _ => ?_)
  obtain ⟨sa, hstr⟩ := hZ.2.1.2.2.2.2.2.2.2.2
  exact T_thrW X hl9 hK hZ ht hlk hP hD hS hZ.1.2.1.2.2 hstr (by decide +kernel) (by decide +kernel) (by decide +kernel) (by decide +kernel) (by decide +kernel) (by decide +kernel) hl.1 dX6_perform_16 dX6_perform_19 dX6_perform_20 dX6_perform_23 dX6_perform_26 ⟨Nat.le_of_ble_eq_true rfl, Nat.le_of_ble_eq_true rfl, Nat.le_of_ble_eq_true rfl, Nat.le_of_ble_eq_true rfl⟩ ⟨rfl, rfl⟩

set_option maxHeartbeats 4000000 in
set_option maxRecDepth 100000 in
theorem c_X6_perform3T (l : Launch) (D : va_G) (cI cZ cS cJ : ClassId) (hl9 : l.stackTraces = false) (x0 : Nat) (p0 : Nat) (q0 : Nat) (t0 : Nat) (k0 : Nat) (f0 : Nat) (w0 : Int32) (a : Nat → Nat) (S : Nat → Nat → Int32) (b : Nat) (hb8 : b < 8) (hw : ¬ wn3 S b = 0) : CT l yX6_perform wsX6_perform ({ frames := 6, cells := 1, slots := 6, locals := 82 }) D (tyL cI cZ cS cJ) [.ref x0, .int 3, .int (nI b), .int 1] (List.flatten [rbC x0 (a 0) p0 q0 t0 k0 f0 w0, stO a (S 12 0) (S 12 1) (S 12 2) (S 12 3) (S 12 4) (S 12 5) (S 12 6) (S 12 7), flX cI cZ (a 1) (a 2) (a 3) (a 4) (a 5) (a 6) (a 7) (a 8) (S 0) (S 1) (S 2) (S 3) (S 4) (S 5) (S 6), ntX cI (a 9) (a 10) (a 11) (a 12) (S 7) (S 8) (S 9) (S 12 8), daX cI (a 13) (a 14) (S 10) (S 11)]) xcS := by
  refine CT_gen (cc := cX6_perform) (maxL := 4) (ret := none) (by decide) rfl (Nat.le_of_ble_eq_true rfl) ?_
  intro p e s m below meth c ls X hK hP hD hS hA hl hZ ht hlk
  have X : CallFix p m c cX6_perform 4 s ([.ref x0, .int 3, .int (nI b), .int 1] : List Value).toArray wsX6_perform RX6 := X
  obtain ⟨hx, hb, hml, hown, hts⟩ := id X
  have hl : lv_has ls 4 [(0, .ref x0), (1, .int 3), (2, .int (nI b)), (3, .int 1)] := hl
  have hinX4 : ∀ w ∈ u_ws RX4 TX4 12, w ∈ wsX6_perform := by decide +kernel
  have hinX6 : ∀ w ∈ u_ws RX6 TX6 7, w ∈ wsX6_perform := by decide +kernel
  refine lv_aload_n hx hb dX6_perform_0 rfl (lv_at hl 0 rfl) ?_
  refine va_get (D := D) (ci := 6) (v := .ref (a 0)) (C := RX6) (T := TX6) (N := 7) hx hb hts hinX6 hown hK hP 0 rfl rfl 0 (by decide) (hts (.fieldLink RX6 12 "RibbonBalloons" "now" "LRibbonBalloons$State;") (by decide +kernel)) (fun _ h9 => h9) rfl dX6_perform_1 ?_
  refine va_get (D := D) (ci := 4) (v := .ref (a 1)) (C := RX4) (T := TX4) (N := 12) hx hb hts hinX4 hown hK hP 1 rfl rfl 0 (by decide) (hts (.fieldLink RX6 62 "RibbonBalloons$State" "flock" "LRibbonBalloons$Flock;") (by decide +kernel)) (fun _ h9 => h9) rfl dX6_perform_4 ?_
  refine lv_iload_n hx hb dX6_perform_7 rfl (lv_at hl 1 rfl) ?_
  refine lv_iload_n hx hb dX6_perform_8 rfl (lv_at hl 2 rfl) ?_
  refine lv_iload_n hx hb dX6_perform_9 rfl (lv_at hl 3 rfl) ?_
  refine kcallV (As := [.int 3, .int (nI b), .int 1]) (rest := []) (Wn := [rbC x0 (a 0) p0 q0 t0 k0 f0 w0, stO a (S 12 0) (S 12 1) (S 12 2) (S 12 3) (S 12 4) (S 12 5) (S 12 6) (S 12 7), flX cI cZ (a 1) (a 2) (a 3) (a 4) (a 5) (a 6) (a 7) (a 8) (S 0) (S 1) (S 2) (S 3) (S 4) (S 5) (S 6), ntX cI (a 9) (a 10) (a 11) (a 12) (S 7) (S 8) (S 9) (S 12 8), daX cI (a 13) (a 14) (S 10) (S 11)]) X (c_X0_whyNot3 l D cI cZ cS cJ (a 1) (a 2) (a 3) (a 4) (a 5) (a 6) (a 7) (a 8) S b 1 (by omega)) (cwV 3 hts gX6_perform_X0_whyNot rfl rfl rfl (by decide +kernel) ⟨Nat.le_of_ble_eq_true rfl, Nat.le_of_ble_eq_true rfl⟩) hK hP hD hS hA [2] rfl (by decide +kernel) rfl rfl rfl 2 0 rfl rfl rfl hl.1 rfl (Nat.le_of_ble_eq_true rfl) dX6_perform_10 ⟨Nat.le_of_ble_eq_true rfl, Nat.le_of_ble_eq_true rfl⟩ (fun H locs hP hD hS => ?_)
  refine lv_if_eq (tgt := 27) hx hb dX6_perform_13 (by decide) (fun h => absurd h hw) (fun _ => ?_)
  obtain ⟨sa, hstr⟩ := hZ.2.1.2.2.2.2.2.2.2.2
  exact T_thrW X hl9 hK hZ ht hlk hP hD hS hZ.1.2.1.2.2 hstr (by decide +kernel) (by decide +kernel) (by decide +kernel) (by decide +kernel) (by decide +kernel) (by decide +kernel) hl.1 dX6_perform_16 dX6_perform_19 dX6_perform_20 dX6_perform_23 dX6_perform_26 ⟨Nat.le_of_ble_eq_true rfl, Nat.le_of_ble_eq_true rfl, Nat.le_of_ble_eq_true rfl, Nat.le_of_ble_eq_true rfl⟩ ⟨rfl, rfl⟩

set_option maxHeartbeats 4000000 in
set_option maxRecDepth 100000 in
theorem c_X6_perform4T (l : Launch) (D : va_G) (cI cZ cS cJ : ClassId) (hl9 : l.stackTraces = false) (x0 : Nat) (p0 : Nat) (q0 : Nat) (t0 : Nat) (k0 : Nat) (f0 : Nat) (w0 : Int32) (a : Nat → Nat) (S : Nat → Nat → Int32) (r : Nat) (x : Int32) (hr7 : r < 7) (hw : ¬ wnt S r x = 0) : CT l yX6_perform wsX6_perform ({ frames := 6, cells := 1, slots := 6, locals := 82 }) D (tyL cI cZ cS cJ) [.ref x0, .int 4, .int (nI r), .int x] (List.flatten [rbC x0 (a 0) p0 q0 t0 k0 f0 w0, stO a (S 12 0) (S 12 1) (S 12 2) (S 12 3) (S 12 4) (S 12 5) (S 12 6) (S 12 7), flX cI cZ (a 1) (a 2) (a 3) (a 4) (a 5) (a 6) (a 7) (a 8) (S 0) (S 1) (S 2) (S 3) (S 4) (S 5) (S 6), ntX cI (a 9) (a 10) (a 11) (a 12) (S 7) (S 8) (S 9) (S 12 8), daX cI (a 13) (a 14) (S 10) (S 11)]) xcS := by
  refine CT_gen (cc := cX6_perform) (maxL := 4) (ret := none) (by decide) rfl (Nat.le_of_ble_eq_true rfl) ?_
  intro p e s m below meth c ls X hK hP hD hS hA hl hZ ht hlk
  have X : CallFix p m c cX6_perform 4 s ([.ref x0, .int 4, .int (nI r), .int x] : List Value).toArray wsX6_perform RX6 := X
  obtain ⟨hx, hb, hml, hown, hts⟩ := id X
  have hl : lv_has ls 4 [(0, .ref x0), (1, .int 4), (2, .int (nI r)), (3, .int x)] := hl
  have hinX4 : ∀ w ∈ u_ws RX4 TX4 12, w ∈ wsX6_perform := by decide +kernel
  have hinX6 : ∀ w ∈ u_ws RX6 TX6 7, w ∈ wsX6_perform := by decide +kernel
  refine lv_aload_n hx hb dX6_perform_0 rfl (lv_at hl 0 rfl) ?_
  refine va_get (D := D) (ci := 6) (v := .ref (a 0)) (C := RX6) (T := TX6) (N := 7) hx hb hts hinX6 hown hK hP 0 rfl rfl 0 (by decide) (hts (.fieldLink RX6 12 "RibbonBalloons" "now" "LRibbonBalloons$State;") (by decide +kernel)) (fun _ h9 => h9) rfl dX6_perform_1 ?_
  refine va_get (D := D) (ci := 4) (v := .ref (a 1)) (C := RX4) (T := TX4) (N := 12) hx hb hts hinX4 hown hK hP 1 rfl rfl 0 (by decide) (hts (.fieldLink RX6 62 "RibbonBalloons$State" "flock" "LRibbonBalloons$Flock;") (by decide +kernel)) (fun _ h9 => h9) rfl dX6_perform_4 ?_
  refine lv_iload_n hx hb dX6_perform_7 rfl (lv_at hl 1 rfl) ?_
  refine lv_iload_n hx hb dX6_perform_8 rfl (lv_at hl 2 rfl) ?_
  refine lv_iload_n hx hb dX6_perform_9 rfl (lv_at hl 3 rfl) ?_
  refine kcallV (As := [.int 4, .int (nI r), .int x]) (rest := []) (Wn := [rbC x0 (a 0) p0 q0 t0 k0 f0 w0, stO a (S 12 0) (S 12 1) (S 12 2) (S 12 3) (S 12 4) (S 12 5) (S 12 6) (S 12 7), flX cI cZ (a 1) (a 2) (a 3) (a 4) (a 5) (a 6) (a 7) (a 8) (S 0) (S 1) (S 2) (S 3) (S 4) (S 5) (S 6), ntX cI (a 9) (a 10) (a 11) (a 12) (S 7) (S 8) (S 9) (S 12 8), daX cI (a 13) (a 14) (S 10) (S 11)]) X (c_X0_whyNot4 l D cI cZ cS cJ (a 1) (a 2) (a 3) (a 4) (a 5) (a 6) (a 7) (a 8) S r x (by omega)) (cwV 3 hts gX6_perform_X0_whyNot rfl rfl rfl (by decide +kernel) ⟨Nat.le_of_ble_eq_true rfl, Nat.le_of_ble_eq_true rfl⟩) hK hP hD hS hA [2] rfl (by decide +kernel) rfl rfl rfl 2 0 rfl rfl rfl hl.1 rfl (Nat.le_of_ble_eq_true rfl) dX6_perform_10 ⟨Nat.le_of_ble_eq_true rfl, Nat.le_of_ble_eq_true rfl⟩ (fun H locs hP hD hS => ?_)
  refine lv_if_eq (tgt := 27) hx hb dX6_perform_13 (by decide) (fun h => absurd h hw) (fun _ => ?_)
  obtain ⟨sa, hstr⟩ := hZ.2.1.2.2.2.2.2.2.2.2
  exact T_thrW X hl9 hK hZ ht hlk hP hD hS hZ.1.2.1.2.2 hstr (by decide +kernel) (by decide +kernel) (by decide +kernel) (by decide +kernel) (by decide +kernel) (by decide +kernel) hl.1 dX6_perform_16 dX6_perform_19 dX6_perform_20 dX6_perform_23 dX6_perform_26 ⟨Nat.le_of_ble_eq_true rfl, Nat.le_of_ble_eq_true rfl, Nat.le_of_ble_eq_true rfl, Nat.le_of_ble_eq_true rfl⟩ ⟨rfl, rfl⟩

set_option maxHeartbeats 4000000 in
set_option maxRecDepth 100000 in
theorem c_X6_perform5T (l : Launch) (D : va_G) (cI cZ cS cJ : ClassId) (hl9 : l.stackTraces = false) (x0 : Nat) (p0 : Nat) (q0 : Nat) (t0 : Nat) (k0 : Nat) (f0 : Nat) (w0 : Int32) (a : Nat → Nat) (S : Nat → Nat → Int32) (r : Nat) (hr7 : r < 7) (hw : ¬ wn5 S r = 0) : CT l yX6_perform wsX6_perform ({ frames := 6, cells := 1, slots := 6, locals := 82 }) D (tyL cI cZ cS cJ) [.ref x0, .int 5, .int (nI r), .int 0] (List.flatten [rbC x0 (a 0) p0 q0 t0 k0 f0 w0, stO a (S 12 0) (S 12 1) (S 12 2) (S 12 3) (S 12 4) (S 12 5) (S 12 6) (S 12 7), flX cI cZ (a 1) (a 2) (a 3) (a 4) (a 5) (a 6) (a 7) (a 8) (S 0) (S 1) (S 2) (S 3) (S 4) (S 5) (S 6), ntX cI (a 9) (a 10) (a 11) (a 12) (S 7) (S 8) (S 9) (S 12 8), daX cI (a 13) (a 14) (S 10) (S 11)]) xcS := by
  refine CT_gen (cc := cX6_perform) (maxL := 4) (ret := none) (by decide) rfl (Nat.le_of_ble_eq_true rfl) ?_
  intro p e s m below meth c ls X hK hP hD hS hA hl hZ ht hlk
  have X : CallFix p m c cX6_perform 4 s ([.ref x0, .int 5, .int (nI r), .int 0] : List Value).toArray wsX6_perform RX6 := X
  obtain ⟨hx, hb, hml, hown, hts⟩ := id X
  have hl : lv_has ls 4 [(0, .ref x0), (1, .int 5), (2, .int (nI r)), (3, .int 0)] := hl
  have hinX4 : ∀ w ∈ u_ws RX4 TX4 12, w ∈ wsX6_perform := by decide +kernel
  have hinX6 : ∀ w ∈ u_ws RX6 TX6 7, w ∈ wsX6_perform := by decide +kernel
  refine lv_aload_n hx hb dX6_perform_0 rfl (lv_at hl 0 rfl) ?_
  refine va_get (D := D) (ci := 6) (v := .ref (a 0)) (C := RX6) (T := TX6) (N := 7) hx hb hts hinX6 hown hK hP 0 rfl rfl 0 (by decide) (hts (.fieldLink RX6 12 "RibbonBalloons" "now" "LRibbonBalloons$State;") (by decide +kernel)) (fun _ h9 => h9) rfl dX6_perform_1 ?_
  refine va_get (D := D) (ci := 4) (v := .ref (a 1)) (C := RX4) (T := TX4) (N := 12) hx hb hts hinX4 hown hK hP 1 rfl rfl 0 (by decide) (hts (.fieldLink RX6 62 "RibbonBalloons$State" "flock" "LRibbonBalloons$Flock;") (by decide +kernel)) (fun _ h9 => h9) rfl dX6_perform_4 ?_
  refine lv_iload_n hx hb dX6_perform_7 rfl (lv_at hl 1 rfl) ?_
  refine lv_iload_n hx hb dX6_perform_8 rfl (lv_at hl 2 rfl) ?_
  refine lv_iload_n hx hb dX6_perform_9 rfl (lv_at hl 3 rfl) ?_
  refine kcallV (As := [.int 5, .int (nI r), .int 0]) (rest := []) (Wn := [rbC x0 (a 0) p0 q0 t0 k0 f0 w0, stO a (S 12 0) (S 12 1) (S 12 2) (S 12 3) (S 12 4) (S 12 5) (S 12 6) (S 12 7), flX cI cZ (a 1) (a 2) (a 3) (a 4) (a 5) (a 6) (a 7) (a 8) (S 0) (S 1) (S 2) (S 3) (S 4) (S 5) (S 6), ntX cI (a 9) (a 10) (a 11) (a 12) (S 7) (S 8) (S 9) (S 12 8), daX cI (a 13) (a 14) (S 10) (S 11)]) X (c_X0_whyNot5 l D cI cZ cS cJ (a 1) (a 2) (a 3) (a 4) (a 5) (a 6) (a 7) (a 8) S r 0 (by omega)) (cwV 3 hts gX6_perform_X0_whyNot rfl rfl rfl (by decide +kernel) ⟨Nat.le_of_ble_eq_true rfl, Nat.le_of_ble_eq_true rfl⟩) hK hP hD hS hA [2] rfl (by decide +kernel) rfl rfl rfl 2 0 rfl rfl rfl hl.1 rfl (Nat.le_of_ble_eq_true rfl) dX6_perform_10 ⟨Nat.le_of_ble_eq_true rfl, Nat.le_of_ble_eq_true rfl⟩ (fun H locs hP hD hS => ?_)
  refine lv_if_eq (tgt := 27) hx hb dX6_perform_13 (by decide) (fun h => absurd h hw) (fun _ => ?_)
  obtain ⟨sa, hstr⟩ := hZ.2.1.2.2.2.2.2.2.2.2
  exact T_thrW X hl9 hK hZ ht hlk hP hD hS hZ.1.2.1.2.2 hstr (by decide +kernel) (by decide +kernel) (by decide +kernel) (by decide +kernel) (by decide +kernel) (by decide +kernel) hl.1 dX6_perform_16 dX6_perform_19 dX6_perform_20 dX6_perform_23 dX6_perform_26 ⟨Nat.le_of_ble_eq_true rfl, Nat.le_of_ble_eq_true rfl, Nat.le_of_ble_eq_true rfl, Nat.le_of_ble_eq_true rfl⟩ ⟨rfl, rfl⟩

set_option maxHeartbeats 4000000 in
set_option maxRecDepth 100000 in
theorem c_X6_fillTI (l : Launch) (D : va_G) (cI cZ cS cJ : ClassId) (hl9 : l.stackTraces = false) (x0 : Nat) (p0 : Nat) (q0 : Nat) (t0 : Nat) (k0 : Nat) (f0 : Nat) (w0 : Int32) (a0 : Nat) (x : Int32) (y : Int32) (hT : ¬ isB x) : CT l yX6_fill wsX6_fill ({ frames := 7, cells := 1, slots := 6, locals := 102 }) D (tyL cI cZ cS cJ) [.ref x0, .int x, .int y] (List.flatten [rbC x0 a0 p0 q0 t0 k0 f0 w0]) xcI := by
  refine CT_gen (cc := cX6_fill) (maxL := 3) (ret := (some .int)) (by decide) rfl (Nat.le_of_ble_eq_true rfl) ?_
  intro p e s m below meth c ls X hK hP hD hS hA hl hZ ht hlk
  have X : CallFix p m c cX6_fill 3 s ([.ref x0, .int x, .int y] : List Value).toArray wsX6_fill RX6 := X
  obtain ⟨hx, hb, hml, hown, hts⟩ := id X
  have hl : lv_has ls 3 [(0, .ref x0), (1, .int x), (2, .int y)] := hl
  refine lv_iload_n hx hb dX6_fill_0 rfl (lv_at hl 1 rfl) ?_
  refine kcallST (As := [.int x]) (rest := []) X hZ (c_X6_checkBalloonT l D cI cZ cS cJ hl9 x hT) (va_cwS 1 hts gX6_fill_X6_checkBalloon rfl rfl rfl (by decide +kernel) ⟨Nat.le_of_ble_eq_true rfl, Nat.le_of_ble_eq_true rfl⟩) hK hP hD hS hA [] rfl (by decide +kernel) rfl hl.1 rfl (Nat.le_of_ble_eq_true rfl) dX6_fill_1 ⟨Nat.le_of_ble_eq_true rfl, Nat.le_of_ble_eq_true rfl⟩ (fun H locs q9 ce hP hS h1 h2 h3 => ?_)
  exact T_out hK ht hlk hP hD hS h1 h2 h3 ⟨Nat.le_of_ble_eq_true rfl, Nat.le_of_ble_eq_true rfl⟩

set_option maxHeartbeats 4000000 in
set_option maxRecDepth 100000 in
theorem c_X6_ventTI (l : Launch) (D : va_G) (cI cZ cS cJ : ClassId) (hl9 : l.stackTraces = false) (x0 : Nat) (p0 : Nat) (q0 : Nat) (t0 : Nat) (k0 : Nat) (f0 : Nat) (w0 : Int32) (a0 : Nat) (x : Int32) (y : Int32) (hT : ¬ isB x) : CT l yX6_vent wsX6_vent ({ frames := 7, cells := 1, slots := 6, locals := 102 }) D (tyL cI cZ cS cJ) [.ref x0, .int x, .int y] (List.flatten [rbC x0 a0 p0 q0 t0 k0 f0 w0]) xcI := by
  refine CT_gen (cc := cX6_vent) (maxL := 3) (ret := (some .int)) (by decide) rfl (Nat.le_of_ble_eq_true rfl) ?_
  intro p e s m below meth c ls X hK hP hD hS hA hl hZ ht hlk
  have X : CallFix p m c cX6_vent 3 s ([.ref x0, .int x, .int y] : List Value).toArray wsX6_vent RX6 := X
  obtain ⟨hx, hb, hml, hown, hts⟩ := id X
  have hl : lv_has ls 3 [(0, .ref x0), (1, .int x), (2, .int y)] := hl
  refine lv_iload_n hx hb dX6_vent_0 rfl (lv_at hl 1 rfl) ?_
  refine kcallST (As := [.int x]) (rest := []) X hZ (c_X6_checkBalloonT l D cI cZ cS cJ hl9 x hT) (va_cwS 1 hts gX6_vent_X6_checkBalloon rfl rfl rfl (by decide +kernel) ⟨Nat.le_of_ble_eq_true rfl, Nat.le_of_ble_eq_true rfl⟩) hK hP hD hS hA [] rfl (by decide +kernel) rfl hl.1 rfl (Nat.le_of_ble_eq_true rfl) dX6_vent_1 ⟨Nat.le_of_ble_eq_true rfl, Nat.le_of_ble_eq_true rfl⟩ (fun H locs q9 ce hP hS h1 h2 h3 => ?_)
  exact T_out hK ht hlk hP hD hS h1 h2 h3 ⟨Nat.le_of_ble_eq_true rfl, Nat.le_of_ble_eq_true rfl⟩

set_option maxHeartbeats 4000000 in
set_option maxRecDepth 100000 in
theorem c_X6_dropTI (l : Launch) (D : va_G) (cI cZ cS cJ : ClassId) (hl9 : l.stackTraces = false) (x0 : Nat) (p0 : Nat) (q0 : Nat) (t0 : Nat) (k0 : Nat) (f0 : Nat) (w0 : Int32) (a0 : Nat) (x : Int32) (hT : ¬ isB x) : CT l yX6_drop wsX6_drop ({ frames := 7, cells := 1, slots := 6, locals := 102 }) D (tyL cI cZ cS cJ) [.ref x0, .int x] (List.flatten [rbC x0 a0 p0 q0 t0 k0 f0 w0]) xcI := by
  refine CT_gen (cc := cX6_drop) (maxL := 2) (ret := (some .int)) (by decide) rfl (Nat.le_of_ble_eq_true rfl) ?_
  intro p e s m below meth c ls X hK hP hD hS hA hl hZ ht hlk
  have X : CallFix p m c cX6_drop 2 s ([.ref x0, .int x] : List Value).toArray wsX6_drop RX6 := X
  obtain ⟨hx, hb, hml, hown, hts⟩ := id X
  have hl : lv_has ls 2 [(0, .ref x0), (1, .int x)] := hl
  refine lv_iload_n hx hb dX6_drop_0 rfl (lv_at hl 1 rfl) ?_
  refine kcallST (As := [.int x]) (rest := []) X hZ (c_X6_checkBalloonT l D cI cZ cS cJ hl9 x hT) (va_cwS 1 hts gX6_drop_X6_checkBalloon rfl rfl rfl (by decide +kernel) ⟨Nat.le_of_ble_eq_true rfl, Nat.le_of_ble_eq_true rfl⟩) hK hP hD hS hA [] rfl (by decide +kernel) rfl hl.1 rfl (Nat.le_of_ble_eq_true rfl) dX6_drop_1 ⟨Nat.le_of_ble_eq_true rfl, Nat.le_of_ble_eq_true rfl⟩ (fun H locs q9 ce hP hS h1 h2 h3 => ?_)
  exact T_out hK ht hlk hP hD hS h1 h2 h3 ⟨Nat.le_of_ble_eq_true rfl, Nat.le_of_ble_eq_true rfl⟩

set_option maxHeartbeats 4000000 in
set_option maxRecDepth 100000 in
theorem c_X6_putTI (l : Launch) (D : va_G) (cI cZ cS cJ : ClassId) (hl9 : l.stackTraces = false) (x0 : Nat) (p0 : Nat) (q0 : Nat) (t0 : Nat) (k0 : Nat) (f0 : Nat) (w0 : Int32) (a0 : Nat) (x : Int32) (hT : ¬ isB x) : CT l yX6_put wsX6_put ({ frames := 7, cells := 1, slots := 6, locals := 102 }) D (tyL cI cZ cS cJ) [.ref x0, .int x] (List.flatten [rbC x0 a0 p0 q0 t0 k0 f0 w0]) xcI := by
  refine CT_gen (cc := cX6_put) (maxL := 2) (ret := (some .int)) (by decide) rfl (Nat.le_of_ble_eq_true rfl) ?_
  intro p e s m below meth c ls X hK hP hD hS hA hl hZ ht hlk
  have X : CallFix p m c cX6_put 2 s ([.ref x0, .int x] : List Value).toArray wsX6_put RX6 := X
  obtain ⟨hx, hb, hml, hown, hts⟩ := id X
  have hl : lv_has ls 2 [(0, .ref x0), (1, .int x)] := hl
  refine lv_iload_n hx hb dX6_put_0 rfl (lv_at hl 1 rfl) ?_
  refine kcallST (As := [.int x]) (rest := []) X hZ (c_X6_checkBalloonT l D cI cZ cS cJ hl9 x hT) (va_cwS 1 hts gX6_put_X6_checkBalloon rfl rfl rfl (by decide +kernel) ⟨Nat.le_of_ble_eq_true rfl, Nat.le_of_ble_eq_true rfl⟩) hK hP hD hS hA [] rfl (by decide +kernel) rfl hl.1 rfl (Nat.le_of_ble_eq_true rfl) dX6_put_1 ⟨Nat.le_of_ble_eq_true rfl, Nat.le_of_ble_eq_true rfl⟩ (fun H locs q9 ce hP hS h1 h2 h3 => ?_)
  exact T_out hK ht hlk hP hD hS h1 h2 h3 ⟨Nat.le_of_ble_eq_true rfl, Nat.le_of_ble_eq_true rfl⟩

set_option maxHeartbeats 4000000 in
set_option maxRecDepth 100000 in
theorem c_X6_leakTI (l : Launch) (D : va_G) (cI cZ cS cJ : ClassId) (hl9 : l.stackTraces = false) (x0 : Nat) (p0 : Nat) (q0 : Nat) (t0 : Nat) (k0 : Nat) (f0 : Nat) (w0 : Int32) (a0 : Nat) (x : Int32) (y : Int32) (hT : ¬ isB x) : CT l yX6_leak wsX6_leak ({ frames := 7, cells := 1, slots := 6, locals := 102 }) D (tyL cI cZ cS cJ) [.ref x0, .int x, .int y] (List.flatten [rbC x0 a0 p0 q0 t0 k0 f0 w0]) xcI := by
  refine CT_gen (cc := cX6_leak) (maxL := 4) (ret := (some .int)) (by decide) rfl (Nat.le_of_ble_eq_true rfl) ?_
  intro p e s m below meth c ls X hK hP hD hS hA hl hZ ht hlk
  have X : CallFix p m c cX6_leak 4 s ([.ref x0, .int x, .int y] : List Value).toArray wsX6_leak RX6 := X
  obtain ⟨hx, hb, hml, hown, hts⟩ := id X
  have hl : lv_has ls 4 [(0, .ref x0), (1, .int x), (2, .int y)] := hl
  refine lv_iload_n hx hb dX6_leak_0 rfl (lv_at hl 1 rfl) ?_
  refine kcallST (As := [.int x]) (rest := []) X hZ (c_X6_checkBalloonT l D cI cZ cS cJ hl9 x hT) (va_cwS 1 hts gX6_leak_X6_checkBalloon rfl rfl rfl (by decide +kernel) ⟨Nat.le_of_ble_eq_true rfl, Nat.le_of_ble_eq_true rfl⟩) hK hP hD hS hA [] rfl (by decide +kernel) rfl hl.1 rfl (Nat.le_of_ble_eq_true rfl) dX6_leak_1 ⟨Nat.le_of_ble_eq_true rfl, Nat.le_of_ble_eq_true rfl⟩ (fun H locs q9 ce hP hS h1 h2 h3 => ?_)
  exact T_out hK ht hlk hP hD hS h1 h2 h3 ⟨Nat.le_of_ble_eq_true rfl, Nat.le_of_ble_eq_true rfl⟩

set_option maxHeartbeats 4000000 in
set_option maxRecDepth 100000 in
theorem c_X6_tuneTI (l : Launch) (D : va_G) (cI cZ cS cJ : ClassId) (hl9 : l.stackTraces = false) (x0 : Nat) (p0 : Nat) (q0 : Nat) (t0 : Nat) (k0 : Nat) (f0 : Nat) (w0 : Int32) (a0 : Nat) (x : Int32) (y : Int32) (hT : ¬ isB x) : CT l yX6_tune wsX6_tune ({ frames := 7, cells := 1, slots := 6, locals := 102 }) D (tyL cI cZ cS cJ) [.ref x0, .int x, .int y] (List.flatten [rbC x0 a0 p0 q0 t0 k0 f0 w0]) xcI := by
  refine CT_gen (cc := cX6_tune) (maxL := 4) (ret := (some .int)) (by decide) rfl (Nat.le_of_ble_eq_true rfl) ?_
  intro p e s m below meth c ls X hK hP hD hS hA hl hZ ht hlk
  have X : CallFix p m c cX6_tune 4 s ([.ref x0, .int x, .int y] : List Value).toArray wsX6_tune RX6 := X
  obtain ⟨hx, hb, hml, hown, hts⟩ := id X
  have hl : lv_has ls 4 [(0, .ref x0), (1, .int x), (2, .int y)] := hl
  refine lv_iload_n hx hb dX6_tune_0 rfl (lv_at hl 1 rfl) ?_
  refine kcallST (As := [.int x]) (rest := []) X hZ (c_X6_checkBalloonT l D cI cZ cS cJ hl9 x hT) (va_cwS 1 hts gX6_tune_X6_checkBalloon rfl rfl rfl (by decide +kernel) ⟨Nat.le_of_ble_eq_true rfl, Nat.le_of_ble_eq_true rfl⟩) hK hP hD hS hA [] rfl (by decide +kernel) rfl hl.1 rfl (Nat.le_of_ble_eq_true rfl) dX6_tune_1 ⟨Nat.le_of_ble_eq_true rfl, Nat.le_of_ble_eq_true rfl⟩ (fun H locs q9 ce hP hS h1 h2 h3 => ?_)
  exact T_out hK ht hlk hP hD hS h1 h2 h3 ⟨Nat.le_of_ble_eq_true rfl, Nat.le_of_ble_eq_true rfl⟩

set_option maxHeartbeats 4000000 in
set_option maxRecDepth 100000 in
theorem c_X6_noteTI (l : Launch) (D : va_G) (cI cZ cS cJ : ClassId) (hl9 : l.stackTraces = false) (x0 : Nat) (p0 : Nat) (q0 : Nat) (t0 : Nat) (k0 : Nat) (f0 : Nat) (w0 : Int32) (a0 : Nat) (x : Int32) (hT : ¬ isB x) : CT l yX6_note wsX6_note ({ frames := 7, cells := 1, slots := 6, locals := 102 }) D (tyL cI cZ cS cJ) [.ref x0, .int x] (List.flatten [rbC x0 a0 p0 q0 t0 k0 f0 w0]) xcI := by
  refine CT_gen (cc := cX6_note) (maxL := 2) (ret := (some .int)) (by decide) rfl (Nat.le_of_ble_eq_true rfl) ?_
  intro p e s m below meth c ls X hK hP hD hS hA hl hZ ht hlk
  have X : CallFix p m c cX6_note 2 s ([.ref x0, .int x] : List Value).toArray wsX6_note RX6 := X
  obtain ⟨hx, hb, hml, hown, hts⟩ := id X
  have hl : lv_has ls 2 [(0, .ref x0), (1, .int x)] := hl
  refine lv_iload_n hx hb dX6_note_0 rfl (lv_at hl 1 rfl) ?_
  refine kcallST (As := [.int x]) (rest := []) X hZ (c_X6_checkBalloonT l D cI cZ cS cJ hl9 x hT) (va_cwS 1 hts gX6_note_X6_checkBalloon rfl rfl rfl (by decide +kernel) ⟨Nat.le_of_ble_eq_true rfl, Nat.le_of_ble_eq_true rfl⟩) hK hP hD hS hA [] rfl (by decide +kernel) rfl hl.1 rfl (Nat.le_of_ble_eq_true rfl) dX6_note_1 ⟨Nat.le_of_ble_eq_true rfl, Nat.le_of_ble_eq_true rfl⟩ (fun H locs q9 ce hP hS h1 h2 h3 => ?_)
  exact T_out hK ht hlk hP hD hS h1 h2 h3 ⟨Nat.le_of_ble_eq_true rfl, Nat.le_of_ble_eq_true rfl⟩

set_option maxHeartbeats 4000000 in
set_option maxRecDepth 100000 in
theorem c_X6_balloonTI (l : Launch) (D : va_G) (cI cZ cS cJ : ClassId) (hl9 : l.stackTraces = false) (x0 : Nat) (p0 : Nat) (q0 : Nat) (t0 : Nat) (k0 : Nat) (f0 : Nat) (w0 : Int32) (a0 : Nat) (x : Int32) (y : Int32) (hT : ¬ isB x) : CT l yX6_balloon wsX6_balloon ({ frames := 7, cells := 1, slots := 6, locals := 102 }) D (tyL cI cZ cS cJ) [.ref x0, .int x, .int y] (List.flatten [rbC x0 a0 p0 q0 t0 k0 f0 w0]) xcI := by
  refine CT_gen (cc := cX6_balloon) (maxL := 4) (ret := (some .int)) (by decide) rfl (Nat.le_of_ble_eq_true rfl) ?_
  intro p e s m below meth c ls X hK hP hD hS hA hl hZ ht hlk
  have X : CallFix p m c cX6_balloon 4 s ([.ref x0, .int x, .int y] : List Value).toArray wsX6_balloon RX6 := X
  obtain ⟨hx, hb, hml, hown, hts⟩ := id X
  have hl : lv_has ls 4 [(0, .ref x0), (1, .int x), (2, .int y)] := hl
  refine lv_iload_n hx hb dX6_balloon_0 rfl (lv_at hl 1 rfl) ?_
  refine kcallST (As := [.int x]) (rest := []) X hZ (c_X6_checkBalloonT l D cI cZ cS cJ hl9 x hT) (va_cwS 1 hts gX6_balloon_X6_checkBalloon rfl rfl rfl (by decide +kernel) ⟨Nat.le_of_ble_eq_true rfl, Nat.le_of_ble_eq_true rfl⟩) hK hP hD hS hA [] rfl (by decide +kernel) rfl hl.1 rfl (Nat.le_of_ble_eq_true rfl) dX6_balloon_1 ⟨Nat.le_of_ble_eq_true rfl, Nat.le_of_ble_eq_true rfl⟩ (fun H locs q9 ce hP hS h1 h2 h3 => ?_)
  exact T_out hK ht hlk hP hD hS h1 h2 h3 ⟨Nat.le_of_ble_eq_true rfl, Nat.le_of_ble_eq_true rfl⟩

set_option maxHeartbeats 4000000 in
set_option maxRecDepth 100000 in
theorem c_X6_whyTI (l : Launch) (D : va_G) (cI cZ cS cJ : ClassId) (hl9 : l.stackTraces = false) (x0 : Nat) (p0 : Nat) (q0 : Nat) (t0 : Nat) (k0 : Nat) (f0 : Nat) (w0 : Int32) (a0 : Nat) (x : Int32) (y : Int32) (hT : ¬ isB x) : CT l yX6_why wsX6_why ({ frames := 7, cells := 1, slots := 6, locals := 102 }) D (tyL cI cZ cS cJ) [.ref x0, .int x, .int y] (List.flatten [rbC x0 a0 p0 q0 t0 k0 f0 w0]) xcI := by
  refine CT_gen (cc := cX6_why) (maxL := 3) (ret := (some .int)) (by decide) rfl (Nat.le_of_ble_eq_true rfl) ?_
  intro p e s m below meth c ls X hK hP hD hS hA hl hZ ht hlk
  have X : CallFix p m c cX6_why 3 s ([.ref x0, .int x, .int y] : List Value).toArray wsX6_why RX6 := X
  obtain ⟨hx, hb, hml, hown, hts⟩ := id X
  have hl : lv_has ls 3 [(0, .ref x0), (1, .int x), (2, .int y)] := hl
  refine lv_iload_n hx hb dX6_why_0 rfl (lv_at hl 1 rfl) ?_
  refine kcallST (As := [.int x]) (rest := []) X hZ (c_X6_checkBalloonT l D cI cZ cS cJ hl9 x hT) (va_cwS 1 hts gX6_why_X6_checkBalloon rfl rfl rfl (by decide +kernel) ⟨Nat.le_of_ble_eq_true rfl, Nat.le_of_ble_eq_true rfl⟩) hK hP hD hS hA [] rfl (by decide +kernel) rfl hl.1 rfl (Nat.le_of_ble_eq_true rfl) dX6_why_1 ⟨Nat.le_of_ble_eq_true rfl, Nat.le_of_ble_eq_true rfl⟩ (fun H locs q9 ce hP hS h1 h2 h3 => ?_)
  exact T_out hK ht hlk hP hD hS h1 h2 h3 ⟨Nat.le_of_ble_eq_true rfl, Nat.le_of_ble_eq_true rfl⟩

set_option maxHeartbeats 4000000 in
set_option maxRecDepth 100000 in
theorem c_X6_ifDroppedTI (l : Launch) (D : va_G) (cI cZ cS cJ : ClassId) (hl9 : l.stackTraces = false) (x0 : Nat) (p0 : Nat) (q0 : Nat) (t0 : Nat) (k0 : Nat) (f0 : Nat) (w0 : Int32) (a0 : Nat) (x : Int32) (y : Int32) (hT : ¬ isB x) : CT l yX6_ifDropped wsX6_ifDropped ({ frames := 7, cells := 1, slots := 6, locals := 102 }) D (tyL cI cZ cS cJ) [.ref x0, .int x, .int y] (List.flatten [rbC x0 a0 p0 q0 t0 k0 f0 w0]) xcI := by
  refine CT_gen (cc := cX6_ifDropped) (maxL := 3) (ret := (some .int)) (by decide) rfl (Nat.le_of_ble_eq_true rfl) ?_
  intro p e s m below meth c ls X hK hP hD hS hA hl hZ ht hlk
  have X : CallFix p m c cX6_ifDropped 3 s ([.ref x0, .int x, .int y] : List Value).toArray wsX6_ifDropped RX6 := X
  obtain ⟨hx, hb, hml, hown, hts⟩ := id X
  have hl : lv_has ls 3 [(0, .ref x0), (1, .int x), (2, .int y)] := hl
  refine lv_iload_n hx hb dX6_ifDropped_0 rfl (lv_at hl 1 rfl) ?_
  refine kcallST (As := [.int x]) (rest := []) X hZ (c_X6_checkBalloonT l D cI cZ cS cJ hl9 x hT) (va_cwS 1 hts gX6_ifDropped_X6_checkBalloon rfl rfl rfl (by decide +kernel) ⟨Nat.le_of_ble_eq_true rfl, Nat.le_of_ble_eq_true rfl⟩) hK hP hD hS hA [] rfl (by decide +kernel) rfl hl.1 rfl (Nat.le_of_ble_eq_true rfl) dX6_ifDropped_1 ⟨Nat.le_of_ble_eq_true rfl, Nat.le_of_ble_eq_true rfl⟩ (fun H locs q9 ce hP hS h1 h2 h3 => ?_)
  exact T_out hK ht hlk hP hD hS h1 h2 h3 ⟨Nat.le_of_ble_eq_true rfl, Nat.le_of_ble_eq_true rfl⟩

set_option maxHeartbeats 4000000 in
set_option maxRecDepth 100000 in
theorem c_X6_landsInTI (l : Launch) (D : va_G) (cI cZ cS cJ : ClassId) (hl9 : l.stackTraces = false) (x0 : Nat) (p0 : Nat) (q0 : Nat) (t0 : Nat) (k0 : Nat) (f0 : Nat) (w0 : Int32) (a0 : Nat) (x : Int32) (hT : ¬ isB x) : CT l yX6_landsIn wsX6_landsIn ({ frames := 7, cells := 1, slots := 6, locals := 102 }) D (tyL cI cZ cS cJ) [.ref x0, .int x] (List.flatten [rbC x0 a0 p0 q0 t0 k0 f0 w0]) xcI := by
  refine CT_gen (cc := cX6_landsIn) (maxL := 2) (ret := (some .int)) (by decide) rfl (Nat.le_of_ble_eq_true rfl) ?_
  intro p e s m below meth c ls X hK hP hD hS hA hl hZ ht hlk
  have X : CallFix p m c cX6_landsIn 2 s ([.ref x0, .int x] : List Value).toArray wsX6_landsIn RX6 := X
  obtain ⟨hx, hb, hml, hown, hts⟩ := id X
  have hl : lv_has ls 2 [(0, .ref x0), (1, .int x)] := hl
  refine lv_iload_n hx hb dX6_landsIn_0 rfl (lv_at hl 1 rfl) ?_
  refine kcallST (As := [.int x]) (rest := []) X hZ (c_X6_checkBalloonT l D cI cZ cS cJ hl9 x hT) (va_cwS 1 hts gX6_landsIn_X6_checkBalloon rfl rfl rfl (by decide +kernel) ⟨Nat.le_of_ble_eq_true rfl, Nat.le_of_ble_eq_true rfl⟩) hK hP hD hS hA [] rfl (by decide +kernel) rfl hl.1 rfl (Nat.le_of_ble_eq_true rfl) dX6_landsIn_1 ⟨Nat.le_of_ble_eq_true rfl, Nat.le_of_ble_eq_true rfl⟩ (fun H locs q9 ce hP hS h1 h2 h3 => ?_)
  exact T_out hK ht hlk hP hD hS h1 h2 h3 ⟨Nat.le_of_ble_eq_true rfl, Nat.le_of_ble_eq_true rfl⟩

set_option maxHeartbeats 4000000 in
set_option maxRecDepth 100000 in
theorem c_X6_tieTI (l : Launch) (D : va_G) (cI cZ cS cJ : ClassId) (hl9 : l.stackTraces = false) (x0 : Nat) (p0 : Nat) (q0 : Nat) (t0 : Nat) (k0 : Nat) (f0 : Nat) (w0 : Int32) (a0 : Nat) (x : Int32) (y : Int32) (hT : ¬ isR x) : CT l yX6_tie wsX6_tie ({ frames := 7, cells := 1, slots := 6, locals := 102 }) D (tyL cI cZ cS cJ) [.ref x0, .int x, .int y] (List.flatten [rbC x0 a0 p0 q0 t0 k0 f0 w0]) xcI := by
  refine CT_gen (cc := cX6_tie) (maxL := 3) (ret := (some .int)) (by decide) rfl (Nat.le_of_ble_eq_true rfl) ?_
  intro p e s m below meth c ls X hK hP hD hS hA hl hZ ht hlk
  have X : CallFix p m c cX6_tie 3 s ([.ref x0, .int x, .int y] : List Value).toArray wsX6_tie RX6 := X
  obtain ⟨hx, hb, hml, hown, hts⟩ := id X
  have hl : lv_has ls 3 [(0, .ref x0), (1, .int x), (2, .int y)] := hl
  refine lv_iload_n hx hb dX6_tie_0 rfl (lv_at hl 1 rfl) ?_
  refine kcallST (As := [.int x]) (rest := []) X hZ (c_X6_checkRibbonT l D cI cZ cS cJ hl9 x hT) (va_cwS 1 hts gX6_tie_X6_checkRibbon rfl rfl rfl (by decide +kernel) ⟨Nat.le_of_ble_eq_true rfl, Nat.le_of_ble_eq_true rfl⟩) hK hP hD hS hA [] rfl (by decide +kernel) rfl hl.1 rfl (Nat.le_of_ble_eq_true rfl) dX6_tie_1 ⟨Nat.le_of_ble_eq_true rfl, Nat.le_of_ble_eq_true rfl⟩ (fun H locs q9 ce hP hS h1 h2 h3 => ?_)
  exact T_out hK ht hlk hP hD hS h1 h2 h3 ⟨Nat.le_of_ble_eq_true rfl, Nat.le_of_ble_eq_true rfl⟩

set_option maxHeartbeats 4000000 in
set_option maxRecDepth 100000 in
theorem c_X6_cutTI (l : Launch) (D : va_G) (cI cZ cS cJ : ClassId) (hl9 : l.stackTraces = false) (x0 : Nat) (p0 : Nat) (q0 : Nat) (t0 : Nat) (k0 : Nat) (f0 : Nat) (w0 : Int32) (a0 : Nat) (x : Int32) (hT : ¬ isR x) : CT l yX6_cut wsX6_cut ({ frames := 7, cells := 1, slots := 6, locals := 102 }) D (tyL cI cZ cS cJ) [.ref x0, .int x] (List.flatten [rbC x0 a0 p0 q0 t0 k0 f0 w0]) xcI := by
  refine CT_gen (cc := cX6_cut) (maxL := 3) (ret := (some .int)) (by decide) rfl (Nat.le_of_ble_eq_true rfl) ?_
  intro p e s m below meth c ls X hK hP hD hS hA hl hZ ht hlk
  have X : CallFix p m c cX6_cut 3 s ([.ref x0, .int x] : List Value).toArray wsX6_cut RX6 := X
  obtain ⟨hx, hb, hml, hown, hts⟩ := id X
  have hl : lv_has ls 3 [(0, .ref x0), (1, .int x)] := hl
  refine lv_iload_n hx hb dX6_cut_0 rfl (lv_at hl 1 rfl) ?_
  refine kcallST (As := [.int x]) (rest := []) X hZ (c_X6_checkRibbonT l D cI cZ cS cJ hl9 x hT) (va_cwS 1 hts gX6_cut_X6_checkRibbon rfl rfl rfl (by decide +kernel) ⟨Nat.le_of_ble_eq_true rfl, Nat.le_of_ble_eq_true rfl⟩) hK hP hD hS hA [] rfl (by decide +kernel) rfl hl.1 rfl (Nat.le_of_ble_eq_true rfl) dX6_cut_1 ⟨Nat.le_of_ble_eq_true rfl, Nat.le_of_ble_eq_true rfl⟩ (fun H locs q9 ce hP hS h1 h2 h3 => ?_)
  exact T_out hK ht hlk hP hD hS h1 h2 h3 ⟨Nat.le_of_ble_eq_true rfl, Nat.le_of_ble_eq_true rfl⟩

set_option maxHeartbeats 4000000 in
set_option maxRecDepth 100000 in
theorem c_X6_bearTI (l : Launch) (D : va_G) (cI cZ cS cJ : ClassId) (hl9 : l.stackTraces = false) (x0 : Nat) (p0 : Nat) (q0 : Nat) (t0 : Nat) (k0 : Nat) (f0 : Nat) (w0 : Int32) (a0 : Nat) (x : Int32) (y : Int32) (hT : ¬ isR x) : CT l yX6_bear wsX6_bear ({ frames := 7, cells := 1, slots := 6, locals := 102 }) D (tyL cI cZ cS cJ) [.ref x0, .int x, .int y] (List.flatten [rbC x0 a0 p0 q0 t0 k0 f0 w0]) xcI := by
  refine CT_gen (cc := cX6_bear) (maxL := 4) (ret := (some .int)) (by decide) rfl (Nat.le_of_ble_eq_true rfl) ?_
  intro p e s m below meth c ls X hK hP hD hS hA hl hZ ht hlk
  have X : CallFix p m c cX6_bear 4 s ([.ref x0, .int x, .int y] : List Value).toArray wsX6_bear RX6 := X
  obtain ⟨hx, hb, hml, hown, hts⟩ := id X
  have hl : lv_has ls 4 [(0, .ref x0), (1, .int x), (2, .int y)] := hl
  refine lv_iload_n hx hb dX6_bear_0 rfl (lv_at hl 1 rfl) ?_
  refine kcallST (As := [.int x]) (rest := []) X hZ (c_X6_checkRibbonT l D cI cZ cS cJ hl9 x hT) (va_cwS 1 hts gX6_bear_X6_checkRibbon rfl rfl rfl (by decide +kernel) ⟨Nat.le_of_ble_eq_true rfl, Nat.le_of_ble_eq_true rfl⟩) hK hP hD hS hA [] rfl (by decide +kernel) rfl hl.1 rfl (Nat.le_of_ble_eq_true rfl) dX6_bear_1 ⟨Nat.le_of_ble_eq_true rfl, Nat.le_of_ble_eq_true rfl⟩ (fun H locs q9 ce hP hS h1 h2 h3 => ?_)
  exact T_out hK ht hlk hP hD hS h1 h2 h3 ⟨Nat.le_of_ble_eq_true rfl, Nat.le_of_ble_eq_true rfl⟩

set_option maxHeartbeats 4000000 in
set_option maxRecDepth 100000 in
theorem c_X6_ribbonTI (l : Launch) (D : va_G) (cI cZ cS cJ : ClassId) (hl9 : l.stackTraces = false) (x0 : Nat) (p0 : Nat) (q0 : Nat) (t0 : Nat) (k0 : Nat) (f0 : Nat) (w0 : Int32) (a0 : Nat) (x : Int32) (y : Int32) (hT : ¬ isR x) : CT l yX6_ribbon wsX6_ribbon ({ frames := 7, cells := 1, slots := 6, locals := 102 }) D (tyL cI cZ cS cJ) [.ref x0, .int x, .int y] (List.flatten [rbC x0 a0 p0 q0 t0 k0 f0 w0]) xcI := by
  refine CT_gen (cc := cX6_ribbon) (maxL := 4) (ret := (some .int)) (by decide) rfl (Nat.le_of_ble_eq_true rfl) ?_
  intro p e s m below meth c ls X hK hP hD hS hA hl hZ ht hlk
  have X : CallFix p m c cX6_ribbon 4 s ([.ref x0, .int x, .int y] : List Value).toArray wsX6_ribbon RX6 := X
  obtain ⟨hx, hb, hml, hown, hts⟩ := id X
  have hl : lv_has ls 4 [(0, .ref x0), (1, .int x), (2, .int y)] := hl
  refine lv_iload_n hx hb dX6_ribbon_0 rfl (lv_at hl 1 rfl) ?_
  refine kcallST (As := [.int x]) (rest := []) X hZ (c_X6_checkRibbonT l D cI cZ cS cJ hl9 x hT) (va_cwS 1 hts gX6_ribbon_X6_checkRibbon rfl rfl rfl (by decide +kernel) ⟨Nat.le_of_ble_eq_true rfl, Nat.le_of_ble_eq_true rfl⟩) hK hP hD hS hA [] rfl (by decide +kernel) rfl hl.1 rfl (Nat.le_of_ble_eq_true rfl) dX6_ribbon_1 ⟨Nat.le_of_ble_eq_true rfl, Nat.le_of_ble_eq_true rfl⟩ (fun H locs q9 ce hP hS h1 h2 h3 => ?_)
  exact T_out hK ht hlk hP hD hS h1 h2 h3 ⟨Nat.le_of_ble_eq_true rfl, Nat.le_of_ble_eq_true rfl⟩

set_option maxHeartbeats 4000000 in
set_option maxRecDepth 100000 in
theorem c_X6_fillTA (l : Launch) (D : va_G) (cI cZ cS cJ : ClassId) (hl9 : l.stackTraces = false) (x0 : Nat) (p0 : Nat) (q0 : Nat) (t0 : Nat) (k0 : Nat) (f0 : Nat) (w0 : Int32) (a0 : Nat) (b : Nat) (x : Int32) (hb8 : b < 8) (hT : ¬ inR x 1 99) : CT l yX6_fill wsX6_fill ({ frames := 7, cells := 1, slots := 6, locals := 104 }) D (tyL cI cZ cS cJ) [.ref x0, .int (nI b), .int x] (List.flatten [rbC x0 a0 p0 q0 t0 k0 f0 w0]) xcA := by
  refine CT_gen (cc := cX6_fill) (maxL := 3) (ret := (some .int)) (by decide) rfl (Nat.le_of_ble_eq_true rfl) ?_
  intro p e s m below meth c ls X hK hP hD hS hA hl hZ ht hlk
  have X : CallFix p m c cX6_fill 3 s ([.ref x0, .int (nI b), .int x] : List Value).toArray wsX6_fill RX6 := X
  obtain ⟨hx, hb, hml, hown, hts⟩ := id X
  have hl : lv_has ls 3 [(0, .ref x0), (1, .int (nI b)), (2, .int x)] := hl
  refine lv_iload_n hx hb dX6_fill_0 rfl (lv_at hl 1 rfl) ?_
  refine kcallS (As := [.int (nI b)]) (rest := []) (Wn := [rbC x0 a0 p0 q0 t0 k0 f0 w0]) X (c_X6_checkBalloon l D cI cZ cS cJ b (by omega)) (va_cwS 1 hts gX6_fill_X6_checkBalloon rfl rfl rfl (by decide +kernel) ⟨Nat.le_of_ble_eq_true rfl, Nat.le_of_ble_eq_true rfl⟩) hK hP hD hS hA [] rfl (by decide +kernel) rfl rfl rfl rfl hl.1 rfl (Nat.le_of_ble_eq_true rfl) dX6_fill_1 ⟨Nat.le_of_ble_eq_true rfl, Nat.le_of_ble_eq_true rfl⟩ (fun H locs hP hD hS => ?_)
  refine lv_iload_n hx hb dX6_fill_4 rfl (lv_at hl 2 rfl) ?_
  refine lv_iconst (v := 1) hx hb dX6_fill_5 (by decide) ?_
  refine lv_bipush (v := 99) hx hb dX6_fill_6 (by decide) ?_
  refine kcallST (As := [.int x, .int 1, .int 99]) (rest := []) X hZ (c_X6_checkRangeT l D cI cZ cS cJ hl9 x 1 99 hT) (va_cwS 3 hts gX6_fill_X6_checkRange rfl rfl rfl (by decide +kernel) ⟨Nat.le_of_ble_eq_true rfl, Nat.le_of_ble_eq_true rfl⟩) hK hP hD hS hA [] rfl (by decide +kernel) rfl hl.1 rfl (Nat.le_of_ble_eq_true rfl) dX6_fill_8 ⟨Nat.le_of_ble_eq_true rfl, Nat.le_of_ble_eq_true rfl⟩ (fun H locs q9 ce hP hS h1 h2 h3 => ?_)
  exact T_out hK ht hlk hP hD hS h1 h2 h3 ⟨Nat.le_of_ble_eq_true rfl, Nat.le_of_ble_eq_true rfl⟩

set_option maxHeartbeats 4000000 in
set_option maxRecDepth 100000 in
theorem c_X6_ventTA (l : Launch) (D : va_G) (cI cZ cS cJ : ClassId) (hl9 : l.stackTraces = false) (x0 : Nat) (p0 : Nat) (q0 : Nat) (t0 : Nat) (k0 : Nat) (f0 : Nat) (w0 : Int32) (a0 : Nat) (b : Nat) (x : Int32) (hb8 : b < 8) (hT : ¬ inR x 1 99) : CT l yX6_vent wsX6_vent ({ frames := 7, cells := 1, slots := 6, locals := 104 }) D (tyL cI cZ cS cJ) [.ref x0, .int (nI b), .int x] (List.flatten [rbC x0 a0 p0 q0 t0 k0 f0 w0]) xcA := by
  refine CT_gen (cc := cX6_vent) (maxL := 3) (ret := (some .int)) (by decide) rfl (Nat.le_of_ble_eq_true rfl) ?_
  intro p e s m below meth c ls X hK hP hD hS hA hl hZ ht hlk
  have X : CallFix p m c cX6_vent 3 s ([.ref x0, .int (nI b), .int x] : List Value).toArray wsX6_vent RX6 := X
  obtain ⟨hx, hb, hml, hown, hts⟩ := id X
  have hl : lv_has ls 3 [(0, .ref x0), (1, .int (nI b)), (2, .int x)] := hl
  refine lv_iload_n hx hb dX6_vent_0 rfl (lv_at hl 1 rfl) ?_
  refine kcallS (As := [.int (nI b)]) (rest := []) (Wn := [rbC x0 a0 p0 q0 t0 k0 f0 w0]) X (c_X6_checkBalloon l D cI cZ cS cJ b (by omega)) (va_cwS 1 hts gX6_vent_X6_checkBalloon rfl rfl rfl (by decide +kernel) ⟨Nat.le_of_ble_eq_true rfl, Nat.le_of_ble_eq_true rfl⟩) hK hP hD hS hA [] rfl (by decide +kernel) rfl rfl rfl rfl hl.1 rfl (Nat.le_of_ble_eq_true rfl) dX6_vent_1 ⟨Nat.le_of_ble_eq_true rfl, Nat.le_of_ble_eq_true rfl⟩ (fun H locs hP hD hS => ?_)
  refine lv_iload_n hx hb dX6_vent_4 rfl (lv_at hl 2 rfl) ?_
  refine lv_iconst (v := 1) hx hb dX6_vent_5 (by decide) ?_
  refine lv_bipush (v := 99) hx hb dX6_vent_6 (by decide) ?_
  refine kcallST (As := [.int x, .int 1, .int 99]) (rest := []) X hZ (c_X6_checkRangeT l D cI cZ cS cJ hl9 x 1 99 hT) (va_cwS 3 hts gX6_vent_X6_checkRange rfl rfl rfl (by decide +kernel) ⟨Nat.le_of_ble_eq_true rfl, Nat.le_of_ble_eq_true rfl⟩) hK hP hD hS hA [] rfl (by decide +kernel) rfl hl.1 rfl (Nat.le_of_ble_eq_true rfl) dX6_vent_8 ⟨Nat.le_of_ble_eq_true rfl, Nat.le_of_ble_eq_true rfl⟩ (fun H locs q9 ce hP hS h1 h2 h3 => ?_)
  exact T_out hK ht hlk hP hD hS h1 h2 h3 ⟨Nat.le_of_ble_eq_true rfl, Nat.le_of_ble_eq_true rfl⟩

set_option maxHeartbeats 4000000 in
set_option maxRecDepth 100000 in
theorem c_X6_leakTA (l : Launch) (D : va_G) (cI cZ cS cJ : ClassId) (hl9 : l.stackTraces = false) (x0 : Nat) (p0 : Nat) (q0 : Nat) (t0 : Nat) (k0 : Nat) (f0 : Nat) (w0 : Int32) (a0 : Nat) (b : Nat) (x : Int32) (hb8 : b < 8) (hT : ¬ inR x 0 9) : CT l yX6_leak wsX6_leak ({ frames := 7, cells := 1, slots := 6, locals := 104 }) D (tyL cI cZ cS cJ) [.ref x0, .int (nI b), .int x] (List.flatten [rbC x0 a0 p0 q0 t0 k0 f0 w0]) xcA := by
  refine CT_gen (cc := cX6_leak) (maxL := 4) (ret := (some .int)) (by decide) rfl (Nat.le_of_ble_eq_true rfl) ?_
  intro p e s m below meth c ls X hK hP hD hS hA hl hZ ht hlk
  have X : CallFix p m c cX6_leak 4 s ([.ref x0, .int (nI b), .int x] : List Value).toArray wsX6_leak RX6 := X
  obtain ⟨hx, hb, hml, hown, hts⟩ := id X
  have hl : lv_has ls 4 [(0, .ref x0), (1, .int (nI b)), (2, .int x)] := hl
  refine lv_iload_n hx hb dX6_leak_0 rfl (lv_at hl 1 rfl) ?_
  refine kcallS (As := [.int (nI b)]) (rest := []) (Wn := [rbC x0 a0 p0 q0 t0 k0 f0 w0]) X (c_X6_checkBalloon l D cI cZ cS cJ b (by omega)) (va_cwS 1 hts gX6_leak_X6_checkBalloon rfl rfl rfl (by decide +kernel) ⟨Nat.le_of_ble_eq_true rfl, Nat.le_of_ble_eq_true rfl⟩) hK hP hD hS hA [] rfl (by decide +kernel) rfl rfl rfl rfl hl.1 rfl (Nat.le_of_ble_eq_true rfl) dX6_leak_1 ⟨Nat.le_of_ble_eq_true rfl, Nat.le_of_ble_eq_true rfl⟩ (fun H locs hP hD hS => ?_)
  refine lv_iload_n hx hb dX6_leak_4 rfl (lv_at hl 2 rfl) ?_
  refine lv_iconst (v := 0) hx hb dX6_leak_5 (by decide) ?_
  refine lv_bipush (v := 9) hx hb dX6_leak_6 (by decide) ?_
  refine kcallST (As := [.int x, .int 0, .int 9]) (rest := []) X hZ (c_X6_checkRangeT l D cI cZ cS cJ hl9 x 0 9 hT) (va_cwS 3 hts gX6_leak_X6_checkRange rfl rfl rfl (by decide +kernel) ⟨Nat.le_of_ble_eq_true rfl, Nat.le_of_ble_eq_true rfl⟩) hK hP hD hS hA [] rfl (by decide +kernel) rfl hl.1 rfl (Nat.le_of_ble_eq_true rfl) dX6_leak_8 ⟨Nat.le_of_ble_eq_true rfl, Nat.le_of_ble_eq_true rfl⟩ (fun H locs q9 ce hP hS h1 h2 h3 => ?_)
  exact T_out hK ht hlk hP hD hS h1 h2 h3 ⟨Nat.le_of_ble_eq_true rfl, Nat.le_of_ble_eq_true rfl⟩

set_option maxHeartbeats 4000000 in
set_option maxRecDepth 100000 in
theorem c_X6_tuneTA (l : Launch) (D : va_G) (cI cZ cS cJ : ClassId) (hl9 : l.stackTraces = false) (x0 : Nat) (p0 : Nat) (q0 : Nat) (t0 : Nat) (k0 : Nat) (f0 : Nat) (w0 : Int32) (a0 : Nat) (b : Nat) (x : Int32) (hb8 : b < 8) (hT : ¬ inR x (-20) 20) : CT l yX6_tune wsX6_tune ({ frames := 7, cells := 1, slots := 6, locals := 104 }) D (tyL cI cZ cS cJ) [.ref x0, .int (nI b), .int x] (List.flatten [rbC x0 a0 p0 q0 t0 k0 f0 w0]) xcA := by
  refine CT_gen (cc := cX6_tune) (maxL := 4) (ret := (some .int)) (by decide) rfl (Nat.le_of_ble_eq_true rfl) ?_
  intro p e s m below meth c ls X hK hP hD hS hA hl hZ ht hlk
  have X : CallFix p m c cX6_tune 4 s ([.ref x0, .int (nI b), .int x] : List Value).toArray wsX6_tune RX6 := X
  obtain ⟨hx, hb, hml, hown, hts⟩ := id X
  have hl : lv_has ls 4 [(0, .ref x0), (1, .int (nI b)), (2, .int x)] := hl
  refine lv_iload_n hx hb dX6_tune_0 rfl (lv_at hl 1 rfl) ?_
  refine kcallS (As := [.int (nI b)]) (rest := []) (Wn := [rbC x0 a0 p0 q0 t0 k0 f0 w0]) X (c_X6_checkBalloon l D cI cZ cS cJ b (by omega)) (va_cwS 1 hts gX6_tune_X6_checkBalloon rfl rfl rfl (by decide +kernel) ⟨Nat.le_of_ble_eq_true rfl, Nat.le_of_ble_eq_true rfl⟩) hK hP hD hS hA [] rfl (by decide +kernel) rfl rfl rfl rfl hl.1 rfl (Nat.le_of_ble_eq_true rfl) dX6_tune_1 ⟨Nat.le_of_ble_eq_true rfl, Nat.le_of_ble_eq_true rfl⟩ (fun H locs hP hD hS => ?_)
  refine lv_iload_n hx hb dX6_tune_4 rfl (lv_at hl 2 rfl) ?_
  refine lv_bipush (v := (-20)) hx hb dX6_tune_5 (by decide) ?_
  refine lv_bipush (v := 20) hx hb dX6_tune_7 (by decide) ?_
  refine kcallST (As := [.int x, .int (-20), .int 20]) (rest := []) X hZ (c_X6_checkRangeT l D cI cZ cS cJ hl9 x (-20) 20 hT) (va_cwS 3 hts gX6_tune_X6_checkRange rfl rfl rfl (by decide +kernel) ⟨Nat.le_of_ble_eq_true rfl, Nat.le_of_ble_eq_true rfl⟩) hK hP hD hS hA [] rfl (by decide +kernel) rfl hl.1 rfl (Nat.le_of_ble_eq_true rfl) dX6_tune_9 ⟨Nat.le_of_ble_eq_true rfl, Nat.le_of_ble_eq_true rfl⟩ (fun H locs q9 ce hP hS h1 h2 h3 => ?_)
  exact T_out hK ht hlk hP hD hS h1 h2 h3 ⟨Nat.le_of_ble_eq_true rfl, Nat.le_of_ble_eq_true rfl⟩

set_option maxHeartbeats 4000000 in
set_option maxRecDepth 100000 in
theorem c_X6_balloonTA (l : Launch) (D : va_G) (cI cZ cS cJ : ClassId) (hl9 : l.stackTraces = false) (x0 : Nat) (p0 : Nat) (q0 : Nat) (t0 : Nat) (k0 : Nat) (f0 : Nat) (w0 : Int32) (a0 : Nat) (b : Nat) (x : Int32) (hb8 : b < 8) (hT : ¬ inR x 0 11) : CT l yX6_balloon wsX6_balloon ({ frames := 7, cells := 1, slots := 6, locals := 104 }) D (tyL cI cZ cS cJ) [.ref x0, .int (nI b), .int x] (List.flatten [rbC x0 a0 p0 q0 t0 k0 f0 w0]) xcA := by
  refine CT_gen (cc := cX6_balloon) (maxL := 4) (ret := (some .int)) (by decide) rfl (Nat.le_of_ble_eq_true rfl) ?_
  intro p e s m below meth c ls X hK hP hD hS hA hl hZ ht hlk
  have X : CallFix p m c cX6_balloon 4 s ([.ref x0, .int (nI b), .int x] : List Value).toArray wsX6_balloon RX6 := X
  obtain ⟨hx, hb, hml, hown, hts⟩ := id X
  have hl : lv_has ls 4 [(0, .ref x0), (1, .int (nI b)), (2, .int x)] := hl
  refine lv_iload_n hx hb dX6_balloon_0 rfl (lv_at hl 1 rfl) ?_
  refine kcallS (As := [.int (nI b)]) (rest := []) (Wn := [rbC x0 a0 p0 q0 t0 k0 f0 w0]) X (c_X6_checkBalloon l D cI cZ cS cJ b (by omega)) (va_cwS 1 hts gX6_balloon_X6_checkBalloon rfl rfl rfl (by decide +kernel) ⟨Nat.le_of_ble_eq_true rfl, Nat.le_of_ble_eq_true rfl⟩) hK hP hD hS hA [] rfl (by decide +kernel) rfl rfl rfl rfl hl.1 rfl (Nat.le_of_ble_eq_true rfl) dX6_balloon_1 ⟨Nat.le_of_ble_eq_true rfl, Nat.le_of_ble_eq_true rfl⟩ (fun H locs hP hD hS => ?_)
  refine lv_iload_n hx hb dX6_balloon_4 rfl (lv_at hl 2 rfl) ?_
  refine lv_iconst (v := 0) hx hb dX6_balloon_5 (by decide) ?_
  refine lv_bipush (v := 11) hx hb dX6_balloon_6 (by decide) ?_
  refine kcallST (As := [.int x, .int 0, .int 11]) (rest := []) X hZ (c_X6_checkRangeT l D cI cZ cS cJ hl9 x 0 11 hT) (va_cwS 3 hts gX6_balloon_X6_checkRange rfl rfl rfl (by decide +kernel) ⟨Nat.le_of_ble_eq_true rfl, Nat.le_of_ble_eq_true rfl⟩) hK hP hD hS hA [] rfl (by decide +kernel) rfl hl.1 rfl (Nat.le_of_ble_eq_true rfl) dX6_balloon_8 ⟨Nat.le_of_ble_eq_true rfl, Nat.le_of_ble_eq_true rfl⟩ (fun H locs q9 ce hP hS h1 h2 h3 => ?_)
  exact T_out hK ht hlk hP hD hS h1 h2 h3 ⟨Nat.le_of_ble_eq_true rfl, Nat.le_of_ble_eq_true rfl⟩

set_option maxHeartbeats 4000000 in
set_option maxRecDepth 100000 in
theorem c_X6_ifDroppedTA (l : Launch) (D : va_G) (cI cZ cS cJ : ClassId) (hl9 : l.stackTraces = false) (x0 : Nat) (p0 : Nat) (q0 : Nat) (t0 : Nat) (k0 : Nat) (f0 : Nat) (w0 : Int32) (a0 : Nat) (b : Nat) (x : Int32) (hb8 : b < 8) (hT : ¬ inR x 0 2) : CT l yX6_ifDropped wsX6_ifDropped ({ frames := 7, cells := 1, slots := 6, locals := 104 }) D (tyL cI cZ cS cJ) [.ref x0, .int (nI b), .int x] (List.flatten [rbC x0 a0 p0 q0 t0 k0 f0 w0]) xcA := by
  refine CT_gen (cc := cX6_ifDropped) (maxL := 3) (ret := (some .int)) (by decide) rfl (Nat.le_of_ble_eq_true rfl) ?_
  intro p e s m below meth c ls X hK hP hD hS hA hl hZ ht hlk
  have X : CallFix p m c cX6_ifDropped 3 s ([.ref x0, .int (nI b), .int x] : List Value).toArray wsX6_ifDropped RX6 := X
  obtain ⟨hx, hb, hml, hown, hts⟩ := id X
  have hl : lv_has ls 3 [(0, .ref x0), (1, .int (nI b)), (2, .int x)] := hl
  refine lv_iload_n hx hb dX6_ifDropped_0 rfl (lv_at hl 1 rfl) ?_
  refine kcallS (As := [.int (nI b)]) (rest := []) (Wn := [rbC x0 a0 p0 q0 t0 k0 f0 w0]) X (c_X6_checkBalloon l D cI cZ cS cJ b (by omega)) (va_cwS 1 hts gX6_ifDropped_X6_checkBalloon rfl rfl rfl (by decide +kernel) ⟨Nat.le_of_ble_eq_true rfl, Nat.le_of_ble_eq_true rfl⟩) hK hP hD hS hA [] rfl (by decide +kernel) rfl rfl rfl rfl hl.1 rfl (Nat.le_of_ble_eq_true rfl) dX6_ifDropped_1 ⟨Nat.le_of_ble_eq_true rfl, Nat.le_of_ble_eq_true rfl⟩ (fun H locs hP hD hS => ?_)
  refine lv_iload_n hx hb dX6_ifDropped_4 rfl (lv_at hl 2 rfl) ?_
  refine lv_iconst (v := 0) hx hb dX6_ifDropped_5 (by decide) ?_
  refine lv_iconst (v := 2) hx hb dX6_ifDropped_6 (by decide) ?_
  refine kcallST (As := [.int x, .int 0, .int 2]) (rest := []) X hZ (c_X6_checkRangeT l D cI cZ cS cJ hl9 x 0 2 hT) (va_cwS 3 hts gX6_ifDropped_X6_checkRange rfl rfl rfl (by decide +kernel) ⟨Nat.le_of_ble_eq_true rfl, Nat.le_of_ble_eq_true rfl⟩) hK hP hD hS hA [] rfl (by decide +kernel) rfl hl.1 rfl (Nat.le_of_ble_eq_true rfl) dX6_ifDropped_7 ⟨Nat.le_of_ble_eq_true rfl, Nat.le_of_ble_eq_true rfl⟩ (fun H locs q9 ce hP hS h1 h2 h3 => ?_)
  exact T_out hK ht hlk hP hD hS h1 h2 h3 ⟨Nat.le_of_ble_eq_true rfl, Nat.le_of_ble_eq_true rfl⟩

set_option maxHeartbeats 4000000 in
set_option maxRecDepth 100000 in
theorem c_X6_tieTA (l : Launch) (D : va_G) (cI cZ cS cJ : ClassId) (hl9 : l.stackTraces = false) (x0 : Nat) (p0 : Nat) (q0 : Nat) (t0 : Nat) (k0 : Nat) (f0 : Nat) (w0 : Int32) (a0 : Nat) (r : Nat) (x : Int32) (hr7 : r < 7) (hT : ¬ inR x 0 300) : CT l yX6_tie wsX6_tie ({ frames := 7, cells := 1, slots := 6, locals := 104 }) D (tyL cI cZ cS cJ) [.ref x0, .int (nI r), .int x] (List.flatten [rbC x0 a0 p0 q0 t0 k0 f0 w0]) xcA := by
  refine CT_gen (cc := cX6_tie) (maxL := 3) (ret := (some .int)) (by decide) rfl (Nat.le_of_ble_eq_true rfl) ?_
  intro p e s m below meth c ls X hK hP hD hS hA hl hZ ht hlk
  have X : CallFix p m c cX6_tie 3 s ([.ref x0, .int (nI r), .int x] : List Value).toArray wsX6_tie RX6 := X
  obtain ⟨hx, hb, hml, hown, hts⟩ := id X
  have hl : lv_has ls 3 [(0, .ref x0), (1, .int (nI r)), (2, .int x)] := hl
  refine lv_iload_n hx hb dX6_tie_0 rfl (lv_at hl 1 rfl) ?_
  refine kcallS (As := [.int (nI r)]) (rest := []) (Wn := [rbC x0 a0 p0 q0 t0 k0 f0 w0]) X (c_X6_checkRibbon l D cI cZ cS cJ r (by omega)) (va_cwS 1 hts gX6_tie_X6_checkRibbon rfl rfl rfl (by decide +kernel) ⟨Nat.le_of_ble_eq_true rfl, Nat.le_of_ble_eq_true rfl⟩) hK hP hD hS hA [] rfl (by decide +kernel) rfl rfl rfl rfl hl.1 rfl (Nat.le_of_ble_eq_true rfl) dX6_tie_1 ⟨Nat.le_of_ble_eq_true rfl, Nat.le_of_ble_eq_true rfl⟩ (fun H locs hP hD hS => ?_)
  refine lv_iload_n hx hb dX6_tie_4 rfl (lv_at hl 2 rfl) ?_
  refine lv_iconst (v := 0) hx hb dX6_tie_5 (by decide) ?_
  refine lv_sipush (v := 300) hx hb dX6_tie_6 (by decide) ?_
  refine kcallST (As := [.int x, .int 0, .int 300]) (rest := []) X hZ (c_X6_checkRangeT l D cI cZ cS cJ hl9 x 0 300 hT) (va_cwS 3 hts gX6_tie_X6_checkRange rfl rfl rfl (by decide +kernel) ⟨Nat.le_of_ble_eq_true rfl, Nat.le_of_ble_eq_true rfl⟩) hK hP hD hS hA [] rfl (by decide +kernel) rfl hl.1 rfl (Nat.le_of_ble_eq_true rfl) dX6_tie_9 ⟨Nat.le_of_ble_eq_true rfl, Nat.le_of_ble_eq_true rfl⟩ (fun H locs q9 ce hP hS h1 h2 h3 => ?_)
  exact T_out hK ht hlk hP hD hS h1 h2 h3 ⟨Nat.le_of_ble_eq_true rfl, Nat.le_of_ble_eq_true rfl⟩

set_option maxHeartbeats 4000000 in
set_option maxRecDepth 100000 in
theorem c_X6_bearTA (l : Launch) (D : va_G) (cI cZ cS cJ : ClassId) (hl9 : l.stackTraces = false) (x0 : Nat) (p0 : Nat) (q0 : Nat) (t0 : Nat) (k0 : Nat) (f0 : Nat) (w0 : Int32) (a0 : Nat) (r : Nat) (x : Int32) (hr7 : r < 7) (hT : ¬ inR x 0 500) : CT l yX6_bear wsX6_bear ({ frames := 7, cells := 1, slots := 6, locals := 104 }) D (tyL cI cZ cS cJ) [.ref x0, .int (nI r), .int x] (List.flatten [rbC x0 a0 p0 q0 t0 k0 f0 w0]) xcA := by
  refine CT_gen (cc := cX6_bear) (maxL := 4) (ret := (some .int)) (by decide) rfl (Nat.le_of_ble_eq_true rfl) ?_
  intro p e s m below meth c ls X hK hP hD hS hA hl hZ ht hlk
  have X : CallFix p m c cX6_bear 4 s ([.ref x0, .int (nI r), .int x] : List Value).toArray wsX6_bear RX6 := X
  obtain ⟨hx, hb, hml, hown, hts⟩ := id X
  have hl : lv_has ls 4 [(0, .ref x0), (1, .int (nI r)), (2, .int x)] := hl
  refine lv_iload_n hx hb dX6_bear_0 rfl (lv_at hl 1 rfl) ?_
  refine kcallS (As := [.int (nI r)]) (rest := []) (Wn := [rbC x0 a0 p0 q0 t0 k0 f0 w0]) X (c_X6_checkRibbon l D cI cZ cS cJ r (by omega)) (va_cwS 1 hts gX6_bear_X6_checkRibbon rfl rfl rfl (by decide +kernel) ⟨Nat.le_of_ble_eq_true rfl, Nat.le_of_ble_eq_true rfl⟩) hK hP hD hS hA [] rfl (by decide +kernel) rfl rfl rfl rfl hl.1 rfl (Nat.le_of_ble_eq_true rfl) dX6_bear_1 ⟨Nat.le_of_ble_eq_true rfl, Nat.le_of_ble_eq_true rfl⟩ (fun H locs hP hD hS => ?_)
  refine lv_iload_n hx hb dX6_bear_4 rfl (lv_at hl 2 rfl) ?_
  refine lv_iconst (v := 0) hx hb dX6_bear_5 (by decide) ?_
  refine lv_sipush (v := 500) hx hb dX6_bear_6 (by decide) ?_
  refine kcallST (As := [.int x, .int 0, .int 500]) (rest := []) X hZ (c_X6_checkRangeT l D cI cZ cS cJ hl9 x 0 500 hT) (va_cwS 3 hts gX6_bear_X6_checkRange rfl rfl rfl (by decide +kernel) ⟨Nat.le_of_ble_eq_true rfl, Nat.le_of_ble_eq_true rfl⟩) hK hP hD hS hA [] rfl (by decide +kernel) rfl hl.1 rfl (Nat.le_of_ble_eq_true rfl) dX6_bear_9 ⟨Nat.le_of_ble_eq_true rfl, Nat.le_of_ble_eq_true rfl⟩ (fun H locs q9 ce hP hS h1 h2 h3 => ?_)
  exact T_out hK ht hlk hP hD hS h1 h2 h3 ⟨Nat.le_of_ble_eq_true rfl, Nat.le_of_ble_eq_true rfl⟩

set_option maxHeartbeats 4000000 in
set_option maxRecDepth 100000 in
theorem c_X6_ribbonTA (l : Launch) (D : va_G) (cI cZ cS cJ : ClassId) (hl9 : l.stackTraces = false) (x0 : Nat) (p0 : Nat) (q0 : Nat) (t0 : Nat) (k0 : Nat) (f0 : Nat) (w0 : Int32) (a0 : Nat) (r : Nat) (x : Int32) (hr7 : r < 7) (hT : ¬ inR x 0 4) : CT l yX6_ribbon wsX6_ribbon ({ frames := 7, cells := 1, slots := 6, locals := 104 }) D (tyL cI cZ cS cJ) [.ref x0, .int (nI r), .int x] (List.flatten [rbC x0 a0 p0 q0 t0 k0 f0 w0]) xcA := by
  refine CT_gen (cc := cX6_ribbon) (maxL := 4) (ret := (some .int)) (by decide) rfl (Nat.le_of_ble_eq_true rfl) ?_
  intro p e s m below meth c ls X hK hP hD hS hA hl hZ ht hlk
  have X : CallFix p m c cX6_ribbon 4 s ([.ref x0, .int (nI r), .int x] : List Value).toArray wsX6_ribbon RX6 := X
  obtain ⟨hx, hb, hml, hown, hts⟩ := id X
  have hl : lv_has ls 4 [(0, .ref x0), (1, .int (nI r)), (2, .int x)] := hl
  refine lv_iload_n hx hb dX6_ribbon_0 rfl (lv_at hl 1 rfl) ?_
  refine kcallS (As := [.int (nI r)]) (rest := []) (Wn := [rbC x0 a0 p0 q0 t0 k0 f0 w0]) X (c_X6_checkRibbon l D cI cZ cS cJ r (by omega)) (va_cwS 1 hts gX6_ribbon_X6_checkRibbon rfl rfl rfl (by decide +kernel) ⟨Nat.le_of_ble_eq_true rfl, Nat.le_of_ble_eq_true rfl⟩) hK hP hD hS hA [] rfl (by decide +kernel) rfl rfl rfl rfl hl.1 rfl (Nat.le_of_ble_eq_true rfl) dX6_ribbon_1 ⟨Nat.le_of_ble_eq_true rfl, Nat.le_of_ble_eq_true rfl⟩ (fun H locs hP hD hS => ?_)
  refine lv_iload_n hx hb dX6_ribbon_4 rfl (lv_at hl 2 rfl) ?_
  refine lv_iconst (v := 0) hx hb dX6_ribbon_5 (by decide) ?_
  refine lv_iconst (v := 4) hx hb dX6_ribbon_6 (by decide) ?_
  refine kcallST (As := [.int x, .int 0, .int 4]) (rest := []) X hZ (c_X6_checkRangeT l D cI cZ cS cJ hl9 x 0 4 hT) (va_cwS 3 hts gX6_ribbon_X6_checkRange rfl rfl rfl (by decide +kernel) ⟨Nat.le_of_ble_eq_true rfl, Nat.le_of_ble_eq_true rfl⟩) hK hP hD hS hA [] rfl (by decide +kernel) rfl hl.1 rfl (Nat.le_of_ble_eq_true rfl) dX6_ribbon_7 ⟨Nat.le_of_ble_eq_true rfl, Nat.le_of_ble_eq_true rfl⟩ (fun H locs q9 ce hP hS h1 h2 h3 => ?_)
  exact T_out hK ht hlk hP hD hS h1 h2 h3 ⟨Nat.le_of_ble_eq_true rfl, Nat.le_of_ble_eq_true rfl⟩

set_option maxHeartbeats 4000000 in
set_option maxRecDepth 100000 in
theorem c_X6_passTA (l : Launch) (D : va_G) (cI cZ cS cJ : ClassId) (hl9 : l.stackTraces = false) (x0 : Nat) (p0 : Nat) (q0 : Nat) (t0 : Nat) (k0 : Nat) (f0 : Nat) (w0 : Int32) (a0 : Nat) (x : Int32) (hT : ¬ inR x 1 99) : CT l yX6_pass wsX6_pass ({ frames := 7, cells := 1, slots := 6, locals := 104 }) D (tyL cI cZ cS cJ) [.ref x0, .int x] (List.flatten [rbC x0 a0 p0 q0 t0 k0 f0 w0]) xcA := by
  refine CT_gen (cc := cX6_pass) (maxL := 3) (ret := (some .int)) (by decide) rfl (Nat.le_of_ble_eq_true rfl) ?_
  intro p e s m below meth c ls X hK hP hD hS hA hl hZ ht hlk
  have X : CallFix p m c cX6_pass 3 s ([.ref x0, .int x] : List Value).toArray wsX6_pass RX6 := X
  obtain ⟨hx, hb, hml, hown, hts⟩ := id X
  have hl : lv_has ls 3 [(0, .ref x0), (1, .int x)] := hl
  refine lv_iload_n hx hb dX6_pass_0 rfl (lv_at hl 1 rfl) ?_
  refine lv_iconst (v := 1) hx hb dX6_pass_1 (by decide) ?_
  refine lv_bipush (v := 99) hx hb dX6_pass_2 (by decide) ?_
  refine kcallST (As := [.int x, .int 1, .int 99]) (rest := []) X hZ (c_X6_checkRangeT l D cI cZ cS cJ hl9 x 1 99 hT) (va_cwS 3 hts gX6_pass_X6_checkRange rfl rfl rfl (by decide +kernel) ⟨Nat.le_of_ble_eq_true rfl, Nat.le_of_ble_eq_true rfl⟩) hK hP hD hS hA [] rfl (by decide +kernel) rfl hl.1 rfl (Nat.le_of_ble_eq_true rfl) dX6_pass_4 ⟨Nat.le_of_ble_eq_true rfl, Nat.le_of_ble_eq_true rfl⟩ (fun H locs q9 ce hP hS h1 h2 h3 => ?_)
  exact T_out hK ht hlk hP hD hS h1 h2 h3 ⟨Nat.le_of_ble_eq_true rfl, Nat.le_of_ble_eq_true rfl⟩

set_option maxHeartbeats 4000000 in
set_option maxRecDepth 100000 in
theorem c_X6_appendTA (l : Launch) (D : va_G) (cI cZ cS cJ : ClassId) (hl9 : l.stackTraces = false) (x0 : Nat) (p0 : Nat) (q0 : Nat) (t0 : Nat) (k0 : Nat) (f0 : Nat) (w0 : Int32) (a0 : Nat) (x : Int32) (hT : ¬ inR x 33 126) : CT l yX6_append wsX6_append ({ frames := 7, cells := 1, slots := 6, locals := 104 }) D (tyL cI cZ cS cJ) [.ref x0, .int x] (List.flatten [rbC x0 a0 p0 q0 t0 k0 f0 w0]) xcA := by
  refine CT_gen (cc := cX6_append) (maxL := 2) (ret := (some .int)) (by decide) rfl (Nat.le_of_ble_eq_true rfl) ?_
  intro p e s m below meth c ls X hK hP hD hS hA hl hZ ht hlk
  have X : CallFix p m c cX6_append 2 s ([.ref x0, .int x] : List Value).toArray wsX6_append RX6 := X
  obtain ⟨hx, hb, hml, hown, hts⟩ := id X
  have hl : lv_has ls 2 [(0, .ref x0), (1, .int x)] := hl
  refine lv_iload_n hx hb dX6_append_0 rfl (lv_at hl 1 rfl) ?_
  refine lv_bipush (v := 33) hx hb dX6_append_1 (by decide) ?_
  refine lv_bipush (v := 126) hx hb dX6_append_3 (by decide) ?_
  refine kcallST (As := [.int x, .int 33, .int 126]) (rest := []) X hZ (c_X6_checkRangeT l D cI cZ cS cJ hl9 x 33 126 hT) (va_cwS 3 hts gX6_append_X6_checkRange rfl rfl rfl (by decide +kernel) ⟨Nat.le_of_ble_eq_true rfl, Nat.le_of_ble_eq_true rfl⟩) hK hP hD hS hA [] rfl (by decide +kernel) rfl hl.1 rfl (Nat.le_of_ble_eq_true rfl) dX6_append_5 ⟨Nat.le_of_ble_eq_true rfl, Nat.le_of_ble_eq_true rfl⟩ (fun H locs q9 ce hP hS h1 h2 h3 => ?_)
  exact T_out hK ht hlk hP hD hS h1 h2 h3 ⟨Nat.le_of_ble_eq_true rfl, Nat.le_of_ble_eq_true rfl⟩

set_option maxHeartbeats 4000000 in
set_option maxRecDepth 100000 in
theorem c_X6_countTA (l : Launch) (D : va_G) (cI cZ cS cJ : ClassId) (hl9 : l.stackTraces = false) (x0 : Nat) (p0 : Nat) (q0 : Nat) (t0 : Nat) (k0 : Nat) (f0 : Nat) (w0 : Int32) (a0 : Nat) (x : Int32) (hT : ¬ inR x 0 14) : CT l yX6_count wsX6_count ({ frames := 7, cells := 1, slots := 6, locals := 104 }) D (tyL cI cZ cS cJ) [.ref x0, .int x] (List.flatten [rbC x0 a0 p0 q0 t0 k0 f0 w0]) xcA := by
  refine CT_gen (cc := cX6_count) (maxL := 2) (ret := (some .int)) (by decide) rfl (Nat.le_of_ble_eq_true rfl) ?_
  intro p e s m below meth c ls X hK hP hD hS hA hl hZ ht hlk
  have X : CallFix p m c cX6_count 2 s ([.ref x0, .int x] : List Value).toArray wsX6_count RX6 := X
  obtain ⟨hx, hb, hml, hown, hts⟩ := id X
  have hl : lv_has ls 2 [(0, .ref x0), (1, .int x)] := hl
  refine lv_iload_n hx hb dX6_count_0 rfl (lv_at hl 1 rfl) ?_
  refine lv_iconst (v := 0) hx hb dX6_count_1 (by decide) ?_
  refine lv_bipush (v := 14) hx hb dX6_count_2 (by decide) ?_
  refine kcallST (As := [.int x, .int 0, .int 14]) (rest := []) X hZ (c_X6_checkRangeT l D cI cZ cS cJ hl9 x 0 14 hT) (va_cwS 3 hts gX6_count_X6_checkRange rfl rfl rfl (by decide +kernel) ⟨Nat.le_of_ble_eq_true rfl, Nat.le_of_ble_eq_true rfl⟩) hK hP hD hS hA [] rfl (by decide +kernel) rfl hl.1 rfl (Nat.le_of_ble_eq_true rfl) dX6_count_4 ⟨Nat.le_of_ble_eq_true rfl, Nat.le_of_ble_eq_true rfl⟩ (fun H locs q9 ce hP hS h1 h2 h3 => ?_)
  exact T_out hK ht hlk hP hD hS h1 h2 h3 ⟨Nat.le_of_ble_eq_true rfl, Nat.le_of_ble_eq_true rfl⟩

set_option maxHeartbeats 4000000 in
set_option maxRecDepth 100000 in
theorem c_X6_stoppedTA (l : Launch) (D : va_G) (cI cZ cS cJ : ClassId) (hl9 : l.stackTraces = false) (x0 : Nat) (p0 : Nat) (q0 : Nat) (t0 : Nat) (k0 : Nat) (f0 : Nat) (w0 : Int32) (a0 : Nat) (x : Int32) (hT : ¬ inR x 0 1) : CT l yX6_stopped wsX6_stopped ({ frames := 7, cells := 1, slots := 6, locals := 104 }) D (tyL cI cZ cS cJ) [.ref x0, .int x] (List.flatten [rbC x0 a0 p0 q0 t0 k0 f0 w0]) xcA := by
  refine CT_gen (cc := cX6_stopped) (maxL := 2) (ret := (some .int)) (by decide) rfl (Nat.le_of_ble_eq_true rfl) ?_
  intro p e s m below meth c ls X hK hP hD hS hA hl hZ ht hlk
  have X : CallFix p m c cX6_stopped 2 s ([.ref x0, .int x] : List Value).toArray wsX6_stopped RX6 := X
  obtain ⟨hx, hb, hml, hown, hts⟩ := id X
  have hl : lv_has ls 2 [(0, .ref x0), (1, .int x)] := hl
  refine lv_iload_n hx hb dX6_stopped_0 rfl (lv_at hl 1 rfl) ?_
  refine lv_iconst (v := 0) hx hb dX6_stopped_1 (by decide) ?_
  refine lv_iconst (v := 1) hx hb dX6_stopped_2 (by decide) ?_
  refine kcallST (As := [.int x, .int 0, .int 1]) (rest := []) X hZ (c_X6_checkRangeT l D cI cZ cS cJ hl9 x 0 1 hT) (va_cwS 3 hts gX6_stopped_X6_checkRange rfl rfl rfl (by decide +kernel) ⟨Nat.le_of_ble_eq_true rfl, Nat.le_of_ble_eq_true rfl⟩) hK hP hD hS hA [] rfl (by decide +kernel) rfl hl.1 rfl (Nat.le_of_ble_eq_true rfl) dX6_stopped_3 ⟨Nat.le_of_ble_eq_true rfl, Nat.le_of_ble_eq_true rfl⟩ (fun H locs q9 ce hP hS h1 h2 h3 => ?_)
  exact T_out hK ht hlk hP hD hS h1 h2 h3 ⟨Nat.le_of_ble_eq_true rfl, Nat.le_of_ble_eq_true rfl⟩

set_option maxHeartbeats 4000000 in
set_option maxRecDepth 100000 in
theorem c_X6_notedTA (l : Launch) (D : va_G) (cI cZ cS cJ : ClassId) (hl9 : l.stackTraces = false) (x0 : Nat) (p0 : Nat) (q0 : Nat) (t0 : Nat) (k0 : Nat) (f0 : Nat) (w0 : Int32) (a0 : Nat) (r : Nat) (x : Int32) (hr : r < 2147483648) (hT : ¬ inR x 0 2) : CT l yX6_noted wsX6_noted ({ frames := 7, cells := 1, slots := 6, locals := 104 }) D (tyL cI cZ cS cJ) [.ref x0, .int (nI r), .int x] (List.flatten [rbC x0 a0 p0 q0 t0 k0 f0 w0]) xcA := by
  refine CT_gen (cc := cX6_noted) (maxL := 3) (ret := (some .int)) (by decide) rfl (Nat.le_of_ble_eq_true rfl) ?_
  intro p e s m below meth c ls X hK hP hD hS hA hl hZ ht hlk
  have X : CallFix p m c cX6_noted 3 s ([.ref x0, .int (nI r), .int x] : List Value).toArray wsX6_noted RX6 := X
  obtain ⟨hx, hb, hml, hown, hts⟩ := id X
  have hl : lv_has ls 3 [(0, .ref x0), (1, .int (nI r)), (2, .int x)] := hl
  refine lv_iload_n hx hb dX6_noted_0 rfl (lv_at hl 1 rfl) ?_
  refine n_ifge (i := r) (tgt := 14) hx hb (by omega) dX6_noted_1 (by decide) ?_
  refine lv_iload_n hx hb dX6_noted_14 rfl (lv_at hl 2 rfl) ?_
  refine lv_iconst (v := 0) hx hb dX6_noted_15 (by decide) ?_
  refine lv_iconst (v := 2) hx hb dX6_noted_16 (by decide) ?_
  refine kcallST (As := [.int x, .int 0, .int 2]) (rest := []) X hZ (c_X6_checkRangeT l D cI cZ cS cJ hl9 x 0 2 hT) (va_cwS 3 hts gX6_noted_X6_checkRange rfl rfl rfl (by decide +kernel) ⟨Nat.le_of_ble_eq_true rfl, Nat.le_of_ble_eq_true rfl⟩) hK hP hD hS hA [] rfl (by decide +kernel) rfl hl.1 rfl (Nat.le_of_ble_eq_true rfl) dX6_noted_17 ⟨Nat.le_of_ble_eq_true rfl, Nat.le_of_ble_eq_true rfl⟩ (fun H locs q9 ce hP hS h1 h2 h3 => ?_)
  exact T_out hK ht hlk hP hD hS h1 h2 h3 ⟨Nat.le_of_ble_eq_true rfl, Nat.le_of_ble_eq_true rfl⟩

set_option maxHeartbeats 4000000 in
set_option maxRecDepth 100000 in
theorem c_X6_notedTI (l : Launch) (D : va_G) (cI cZ cS cJ : ClassId) (hl9 : l.stackTraces = false) (x0 : Nat) (p0 : Nat) (q0 : Nat) (t0 : Nat) (k0 : Nat) (f0 : Nat) (w0 : Int32) (a0 : Nat) (x : Int32) (y : Int32) (hT : x < 0) : CT l yX6_noted wsX6_noted ({ frames := 6, cells := 1, slots := 6, locals := 82 }) D (tyL cI cZ cS cJ) [.ref x0, .int x, .int y] (List.flatten [rbC x0 a0 p0 q0 t0 k0 f0 w0]) xcI := by
  refine CT_gen (cc := cX6_noted) (maxL := 3) (ret := (some .int)) (by decide) rfl (Nat.le_of_ble_eq_true rfl) ?_
  intro p e s m below meth c ls X hK hP hD hS hA hl hZ ht hlk
  have X : CallFix p m c cX6_noted 3 s ([.ref x0, .int x, .int y] : List Value).toArray wsX6_noted RX6 := X
  obtain ⟨hx, hb, hml, hown, hts⟩ := id X
  have hl : lv_has ls 3 [(0, .ref x0), (1, .int x), (2, .int y)] := hl
  refine lv_iload_n hx hb dX6_noted_0 rfl (lv_at hl 1 rfl) ?_
  refine lv_if_ge (tgt := 14) hx hb dX6_noted_1 (by decide) (fun h => absurd h (Int32.not_le.mpr hT)) (fun _ => ?_)
  obtain ⟨sa, hstr⟩ := hZ.2.1.2.2.2.2.1
  exact T_thr X hl9 hK hZ ht hlk hP hD hS hZ.1.2.1.1 hstr (by decide +kernel) (by decide +kernel) (by decide +kernel) (by decide +kernel) (by decide +kernel) (by decide +kernel) hl.1 dX6_noted_4 dX6_noted_7 dX6_noted_8 dX6_noted_10 dX6_noted_13 ⟨Nat.le_of_ble_eq_true rfl, Nat.le_of_ble_eq_true rfl, Nat.le_of_ble_eq_true rfl, Nat.le_of_ble_eq_true rfl⟩ ⟨rfl, rfl⟩

set_option maxHeartbeats 4000000 in
set_option maxRecDepth 100000 in
theorem c_X6_whyTIR4 (l : Launch) (D : va_G) (cI cZ cS cJ : ClassId) (hl9 : l.stackTraces = false) (x0 : Nat) (p0 : Nat) (q0 : Nat) (t0 : Nat) (k0 : Nat) (f0 : Nat) (w0 : Int32) (a0 : Nat)  : CT l yX6_why wsX6_why ({ frames := 7, cells := 1, slots := 6, locals := 102 }) D (tyL cI cZ cS cJ) [.ref x0, .int 7, .int 4] (List.flatten [rbC x0 a0 p0 q0 t0 k0 f0 w0]) xcI := by
  refine CT_gen (cc := cX6_why) (maxL := 3) (ret := (some .int)) (by decide) rfl (Nat.le_of_ble_eq_true rfl) ?_
  intro p e s m below meth c ls X hK hP hD hS hA hl hZ ht hlk
  have X : CallFix p m c cX6_why 3 s ([.ref x0, .int 7, .int 4] : List Value).toArray wsX6_why RX6 := X
  obtain ⟨hx, hb, hml, hown, hts⟩ := id X
  have hl : lv_has ls 3 [(0, .ref x0), (1, .int 7), (2, .int 4)] := hl
  refine lv_iload_n hx hb dX6_why_0 rfl (lv_at hl 1 rfl) ?_
  refine kcallS (As := [.int 7]) (rest := []) (Wn := [rbC x0 a0 p0 q0 t0 k0 f0 w0]) X (c_X6_checkBalloon l D cI cZ cS cJ 7 (by omega)) (va_cwS 1 hts gX6_why_X6_checkBalloon rfl rfl rfl (by decide +kernel) ⟨Nat.le_of_ble_eq_true rfl, Nat.le_of_ble_eq_true rfl⟩) hK hP hD hS hA [] rfl (by decide +kernel) rfl rfl rfl rfl hl.1 rfl (Nat.le_of_ble_eq_true rfl) dX6_why_1 ⟨Nat.le_of_ble_eq_true rfl, Nat.le_of_ble_eq_true rfl⟩ (fun H locs hP hD hS => ?_)
  refine lv_iload_n hx hb dX6_why_4 rfl (lv_at hl 2 rfl) ?_
  refine lv_iconst (v := 4) hx hb dX6_why_5 (by decide) ?_
  refine lv_icmp_eq (tgt := 14) hx hb dX6_why_6 (by decide) (fun _ => ?_) (fun h => absurd (by decide) h)
  refine lv_iload_n hx hb dX6_why_14 rfl (lv_at hl 1 rfl) ?_
  refine kcallST (As := [.int 7]) (rest := []) X hZ (c_X6_checkRibbonT l D cI cZ cS cJ hl9 7 (by decide)) (va_cwS 1 hts gX6_why_X6_checkRibbon rfl rfl rfl (by decide +kernel) ⟨Nat.le_of_ble_eq_true rfl, Nat.le_of_ble_eq_true rfl⟩) hK hP hD hS hA [] rfl (by decide +kernel) rfl hl.1 rfl (Nat.le_of_ble_eq_true rfl) dX6_why_15 ⟨Nat.le_of_ble_eq_true rfl, Nat.le_of_ble_eq_true rfl⟩ (fun H locs q9 ce hP hS h1 h2 h3 => ?_)
  exact T_out hK ht hlk hP hD hS h1 h2 h3 ⟨Nat.le_of_ble_eq_true rfl, Nat.le_of_ble_eq_true rfl⟩

set_option maxHeartbeats 4000000 in
set_option maxRecDepth 100000 in
theorem c_X6_whyTIR5 (l : Launch) (D : va_G) (cI cZ cS cJ : ClassId) (hl9 : l.stackTraces = false) (x0 : Nat) (p0 : Nat) (q0 : Nat) (t0 : Nat) (k0 : Nat) (f0 : Nat) (w0 : Int32) (a0 : Nat)  : CT l yX6_why wsX6_why ({ frames := 7, cells := 1, slots := 6, locals := 102 }) D (tyL cI cZ cS cJ) [.ref x0, .int 7, .int 5] (List.flatten [rbC x0 a0 p0 q0 t0 k0 f0 w0]) xcI := by
  refine CT_gen (cc := cX6_why) (maxL := 3) (ret := (some .int)) (by decide) rfl (Nat.le_of_ble_eq_true rfl) ?_
  intro p e s m below meth c ls X hK hP hD hS hA hl hZ ht hlk
  have X : CallFix p m c cX6_why 3 s ([.ref x0, .int 7, .int 5] : List Value).toArray wsX6_why RX6 := X
  obtain ⟨hx, hb, hml, hown, hts⟩ := id X
  have hl : lv_has ls 3 [(0, .ref x0), (1, .int 7), (2, .int 5)] := hl
  refine lv_iload_n hx hb dX6_why_0 rfl (lv_at hl 1 rfl) ?_
  refine kcallS (As := [.int 7]) (rest := []) (Wn := [rbC x0 a0 p0 q0 t0 k0 f0 w0]) X (c_X6_checkBalloon l D cI cZ cS cJ 7 (by omega)) (va_cwS 1 hts gX6_why_X6_checkBalloon rfl rfl rfl (by decide +kernel) ⟨Nat.le_of_ble_eq_true rfl, Nat.le_of_ble_eq_true rfl⟩) hK hP hD hS hA [] rfl (by decide +kernel) rfl rfl rfl rfl hl.1 rfl (Nat.le_of_ble_eq_true rfl) dX6_why_1 ⟨Nat.le_of_ble_eq_true rfl, Nat.le_of_ble_eq_true rfl⟩ (fun H locs hP hD hS => ?_)
  refine lv_iload_n hx hb dX6_why_4 rfl (lv_at hl 2 rfl) ?_
  refine lv_iconst (v := 4) hx hb dX6_why_5 (by decide) ?_
  refine lv_icmp_eq (tgt := 14) hx hb dX6_why_6 (by decide) (fun h => absurd h (by decide)) (fun _ => ?_)
  refine lv_iload_n hx hb dX6_why_9 rfl (lv_at hl 2 rfl) ?_
  refine lv_iconst (v := 5) hx hb dX6_why_10 (by decide) ?_
  refine lv_icmp_ne (tgt := 18) hx hb dX6_why_11 (by decide) (fun h => absurd h (by decide)) (fun _ => ?_)
  refine lv_iload_n hx hb dX6_why_14 rfl (lv_at hl 1 rfl) ?_
  refine kcallST (As := [.int 7]) (rest := []) X hZ (c_X6_checkRibbonT l D cI cZ cS cJ hl9 7 (by decide)) (va_cwS 1 hts gX6_why_X6_checkRibbon rfl rfl rfl (by decide +kernel) ⟨Nat.le_of_ble_eq_true rfl, Nat.le_of_ble_eq_true rfl⟩) hK hP hD hS hA [] rfl (by decide +kernel) rfl hl.1 rfl (Nat.le_of_ble_eq_true rfl) dX6_why_15 ⟨Nat.le_of_ble_eq_true rfl, Nat.le_of_ble_eq_true rfl⟩ (fun H locs q9 ce hP hS h1 h2 h3 => ?_)
  exact T_out hK ht hlk hP hD hS h1 h2 h3 ⟨Nat.le_of_ble_eq_true rfl, Nat.le_of_ble_eq_true rfl⟩

set_option maxHeartbeats 4000000 in
set_option maxRecDepth 100000 in
theorem c_X6_whyTA (l : Launch) (D : va_G) (cI cZ cS cJ : ClassId) (hl9 : l.stackTraces = false) (x0 : Nat) (p0 : Nat) (q0 : Nat) (t0 : Nat) (k0 : Nat) (f0 : Nat) (w0 : Int32) (a0 : Nat) (b : Nat) (x : Int32) (hb8 : b < 8) (hT : ¬ inR x 0 5) : CT l yX6_why wsX6_why ({ frames := 7, cells := 1, slots := 6, locals := 104 }) D (tyL cI cZ cS cJ) [.ref x0, .int (nI b), .int x] (List.flatten [rbC x0 a0 p0 q0 t0 k0 f0 w0]) xcA := by
  refine CT_gen (cc := cX6_why) (maxL := 3) (ret := (some .int)) (by decide) rfl (Nat.le_of_ble_eq_true rfl) ?_
  intro p e s m below meth c ls X hK hP hD hS hA hl hZ ht hlk
  have X : CallFix p m c cX6_why 3 s ([.ref x0, .int (nI b), .int x] : List Value).toArray wsX6_why RX6 := X
  obtain ⟨hx, hb, hml, hown, hts⟩ := id X
  have hl : lv_has ls 3 [(0, .ref x0), (1, .int (nI b)), (2, .int x)] := hl
  refine lv_iload_n hx hb dX6_why_0 rfl (lv_at hl 1 rfl) ?_
  refine kcallS (As := [.int (nI b)]) (rest := []) (Wn := [rbC x0 a0 p0 q0 t0 k0 f0 w0]) X (c_X6_checkBalloon l D cI cZ cS cJ b (by omega)) (va_cwS 1 hts gX6_why_X6_checkBalloon rfl rfl rfl (by decide +kernel) ⟨Nat.le_of_ble_eq_true rfl, Nat.le_of_ble_eq_true rfl⟩) hK hP hD hS hA [] rfl (by decide +kernel) rfl rfl rfl rfl hl.1 rfl (Nat.le_of_ble_eq_true rfl) dX6_why_1 ⟨Nat.le_of_ble_eq_true rfl, Nat.le_of_ble_eq_true rfl⟩ (fun H locs hP hD hS => ?_)
  refine lv_iload_n hx hb dX6_why_4 rfl (lv_at hl 2 rfl) ?_
  refine lv_iconst (v := 4) hx hb dX6_why_5 (by decide) ?_
  refine lv_icmp_eq (tgt := 14) hx hb dX6_why_6 (by decide) (fun h => absurd h (fun h9 => hT (by rw [h9]; decide))) (fun _ => ?_)
  refine lv_iload_n hx hb dX6_why_9 rfl (lv_at hl 2 rfl) ?_
  refine lv_iconst (v := 5) hx hb dX6_why_10 (by decide) ?_
  refine lv_icmp_ne (tgt := 18) hx hb dX6_why_11 (by decide) (fun _ => ?_) (fun h => absurd h (fun h9 => hT (by rw [h9]; decide)))
  refine lv_iload_n hx hb dX6_why_18 rfl (lv_at hl 2 rfl) ?_
  refine lv_iconst (v := 0) hx hb dX6_why_19 (by decide) ?_
  refine lv_iconst (v := 5) hx hb dX6_why_20 (by decide) ?_
  refine kcallST (As := [.int x, .int 0, .int 5]) (rest := []) X hZ (c_X6_checkRangeT l D cI cZ cS cJ hl9 x 0 5 hT) (va_cwS 3 hts gX6_why_X6_checkRange rfl rfl rfl (by decide +kernel) ⟨Nat.le_of_ble_eq_true rfl, Nat.le_of_ble_eq_true rfl⟩) hK hP hD hS hA [] rfl (by decide +kernel) rfl hl.1 rfl (Nat.le_of_ble_eq_true rfl) dX6_why_21 ⟨Nat.le_of_ble_eq_true rfl, Nat.le_of_ble_eq_true rfl⟩ (fun H locs q9 ce hP hS h1 h2 h3 => ?_)
  exact T_out hK ht hlk hP hD hS h1 h2 h3 ⟨Nat.le_of_ble_eq_true rfl, Nat.le_of_ble_eq_true rfl⟩

set_option maxHeartbeats 4000000 in
set_option maxRecDepth 100000 in
theorem c_X6_fillTS (l : Launch) (D : va_G) (cI cZ cS cJ : ClassId) (hl9 : l.stackTraces = false) (x0 : Nat) (p0 : Nat) (q0 : Nat) (t0 : Nat) (k0 : Nat) (f0 : Nat) (w0 : Int32) (a : Nat → Nat) (S : Nat → Nat → Int32) (b : Nat) (x : Int32) (hb8 : b < 8) (h1 : ¬ x < 1) (h2 : x ≤ 99) (hw : ¬ wn0 S b x = 0) : CT l yX6_fill wsX6_fill ({ frames := 7, cells := 1, slots := 6, locals := 105 }) D (tyL cI cZ cS cJ) [.ref x0, .int (nI b), .int x] (List.flatten [rbC x0 (a 0) p0 q0 t0 k0 f0 w0, stO a (S 12 0) (S 12 1) (S 12 2) (S 12 3) (S 12 4) (S 12 5) (S 12 6) (S 12 7), flX cI cZ (a 1) (a 2) (a 3) (a 4) (a 5) (a 6) (a 7) (a 8) (S 0) (S 1) (S 2) (S 3) (S 4) (S 5) (S 6), ntX cI (a 9) (a 10) (a 11) (a 12) (S 7) (S 8) (S 9) (S 12 8), daX cI (a 13) (a 14) (S 10) (S 11)]) xcS := by
  refine CT_gen (cc := cX6_fill) (maxL := 3) (ret := (some .int)) (by decide) rfl (Nat.le_of_ble_eq_true rfl) ?_
  intro p e s m below meth c ls X hK hP hD hS hA hl hZ ht hlk
  have X : CallFix p m c cX6_fill 3 s ([.ref x0, .int (nI b), .int x] : List Value).toArray wsX6_fill RX6 := X
  obtain ⟨hx, hb, hml, hown, hts⟩ := id X
  have hl : lv_has ls 3 [(0, .ref x0), (1, .int (nI b)), (2, .int x)] := hl
  refine lv_iload_n hx hb dX6_fill_0 rfl (lv_at hl 1 rfl) ?_
  refine kcallS (As := [.int (nI b)]) (rest := []) (Wn := [rbC x0 (a 0) p0 q0 t0 k0 f0 w0, stO a (S 12 0) (S 12 1) (S 12 2) (S 12 3) (S 12 4) (S 12 5) (S 12 6) (S 12 7), flX cI cZ (a 1) (a 2) (a 3) (a 4) (a 5) (a 6) (a 7) (a 8) (S 0) (S 1) (S 2) (S 3) (S 4) (S 5) (S 6), ntX cI (a 9) (a 10) (a 11) (a 12) (S 7) (S 8) (S 9) (S 12 8), daX cI (a 13) (a 14) (S 10) (S 11)]) X (c_X6_checkBalloon l D cI cZ cS cJ b (by omega)) (va_cwS 1 hts gX6_fill_X6_checkBalloon rfl rfl rfl (by decide +kernel) ⟨Nat.le_of_ble_eq_true rfl, Nat.le_of_ble_eq_true rfl⟩) hK hP hD hS hA [] rfl (by decide +kernel) rfl rfl rfl rfl hl.1 rfl (Nat.le_of_ble_eq_true rfl) dX6_fill_1 ⟨Nat.le_of_ble_eq_true rfl, Nat.le_of_ble_eq_true rfl⟩ (fun H locs hP hD hS => ?_)
  refine lv_iload_n hx hb dX6_fill_4 rfl (lv_at hl 2 rfl) ?_
  refine lv_iconst (v := 1) hx hb dX6_fill_5 (by decide) ?_
  refine lv_bipush (v := 99) hx hb dX6_fill_6 (by decide) ?_
  refine kcallS (As := [.int x, .int 1, .int 99]) (rest := []) (Wn := [rbC x0 (a 0) p0 q0 t0 k0 f0 w0, stO a (S 12 0) (S 12 1) (S 12 2) (S 12 3) (S 12 4) (S 12 5) (S 12 6) (S 12 7), flX cI cZ (a 1) (a 2) (a 3) (a 4) (a 5) (a 6) (a 7) (a 8) (S 0) (S 1) (S 2) (S 3) (S 4) (S 5) (S 6), ntX cI (a 9) (a 10) (a 11) (a 12) (S 7) (S 8) (S 9) (S 12 8), daX cI (a 13) (a 14) (S 10) (S 11)]) X (c_X6_checkRange l D cI cZ cS cJ x 1 99 h1 h2) (va_cwS 3 hts gX6_fill_X6_checkRange rfl rfl rfl (by decide +kernel) ⟨Nat.le_of_ble_eq_true rfl, Nat.le_of_ble_eq_true rfl⟩) hK hP hD hS hA [] rfl (by decide +kernel) rfl rfl rfl rfl hl.1 rfl (Nat.le_of_ble_eq_true rfl) dX6_fill_8 ⟨Nat.le_of_ble_eq_true rfl, Nat.le_of_ble_eq_true rfl⟩ (fun H locs hP hD hS => ?_)
  refine lv_aload_n hx hb dX6_fill_11 rfl (lv_at hl 0 rfl) ?_
  refine lv_iconst (v := 0) hx hb dX6_fill_12 (by decide) ?_
  refine lv_iload_n hx hb dX6_fill_13 rfl (lv_at hl 1 rfl) ?_
  refine lv_iload_n hx hb dX6_fill_14 rfl (lv_at hl 2 rfl) ?_
  refine kcallVT (As := [.int 0, .int (nI b), .int x]) (rest := []) X hZ (c_X6_perform0T l D cI cZ cS cJ hl9 x0 p0 q0 t0 k0 f0 w0 a S b x (by omega) hw) (cwV 3 hts gX6_fill_X6_perform rfl rfl rfl (by decide +kernel) ⟨Nat.le_of_ble_eq_true rfl, Nat.le_of_ble_eq_true rfl⟩) hK hP hD hS hA [0, 1, 2, 3, 4] rfl (by decide +kernel) 0 6 rfl rfl rfl hl.1 rfl (Nat.le_of_ble_eq_true rfl) dX6_fill_15 ⟨Nat.le_of_ble_eq_true rfl, Nat.le_of_ble_eq_true rfl⟩ (fun H locs q9 ce hP hS h1 h2 h3 => ?_)
  exact T_out hK ht hlk hP hD hS h1 h2 h3 ⟨Nat.le_of_ble_eq_true rfl, Nat.le_of_ble_eq_true rfl⟩

set_option maxHeartbeats 4000000 in
set_option maxRecDepth 100000 in
theorem c_X6_ventTS (l : Launch) (D : va_G) (cI cZ cS cJ : ClassId) (hl9 : l.stackTraces = false) (x0 : Nat) (p0 : Nat) (q0 : Nat) (t0 : Nat) (k0 : Nat) (f0 : Nat) (w0 : Int32) (a : Nat → Nat) (S : Nat → Nat → Int32) (b : Nat) (x : Int32) (hb8 : b < 8) (h1 : ¬ x < 1) (h2 : x ≤ 99) (hw : ¬ wn1 S b x = 0) : CT l yX6_vent wsX6_vent ({ frames := 7, cells := 1, slots := 6, locals := 105 }) D (tyL cI cZ cS cJ) [.ref x0, .int (nI b), .int x] (List.flatten [rbC x0 (a 0) p0 q0 t0 k0 f0 w0, stO a (S 12 0) (S 12 1) (S 12 2) (S 12 3) (S 12 4) (S 12 5) (S 12 6) (S 12 7), flX cI cZ (a 1) (a 2) (a 3) (a 4) (a 5) (a 6) (a 7) (a 8) (S 0) (S 1) (S 2) (S 3) (S 4) (S 5) (S 6), ntX cI (a 9) (a 10) (a 11) (a 12) (S 7) (S 8) (S 9) (S 12 8), daX cI (a 13) (a 14) (S 10) (S 11)]) xcS := by
  refine CT_gen (cc := cX6_vent) (maxL := 3) (ret := (some .int)) (by decide) rfl (Nat.le_of_ble_eq_true rfl) ?_
  intro p e s m below meth c ls X hK hP hD hS hA hl hZ ht hlk
  have X : CallFix p m c cX6_vent 3 s ([.ref x0, .int (nI b), .int x] : List Value).toArray wsX6_vent RX6 := X
  obtain ⟨hx, hb, hml, hown, hts⟩ := id X
  have hl : lv_has ls 3 [(0, .ref x0), (1, .int (nI b)), (2, .int x)] := hl
  refine lv_iload_n hx hb dX6_vent_0 rfl (lv_at hl 1 rfl) ?_
  refine kcallS (As := [.int (nI b)]) (rest := []) (Wn := [rbC x0 (a 0) p0 q0 t0 k0 f0 w0, stO a (S 12 0) (S 12 1) (S 12 2) (S 12 3) (S 12 4) (S 12 5) (S 12 6) (S 12 7), flX cI cZ (a 1) (a 2) (a 3) (a 4) (a 5) (a 6) (a 7) (a 8) (S 0) (S 1) (S 2) (S 3) (S 4) (S 5) (S 6), ntX cI (a 9) (a 10) (a 11) (a 12) (S 7) (S 8) (S 9) (S 12 8), daX cI (a 13) (a 14) (S 10) (S 11)]) X (c_X6_checkBalloon l D cI cZ cS cJ b (by omega)) (va_cwS 1 hts gX6_vent_X6_checkBalloon rfl rfl rfl (by decide +kernel) ⟨Nat.le_of_ble_eq_true rfl, Nat.le_of_ble_eq_true rfl⟩) hK hP hD hS hA [] rfl (by decide +kernel) rfl rfl rfl rfl hl.1 rfl (Nat.le_of_ble_eq_true rfl) dX6_vent_1 ⟨Nat.le_of_ble_eq_true rfl, Nat.le_of_ble_eq_true rfl⟩ (fun H locs hP hD hS => ?_)
  refine lv_iload_n hx hb dX6_vent_4 rfl (lv_at hl 2 rfl) ?_
  refine lv_iconst (v := 1) hx hb dX6_vent_5 (by decide) ?_
  refine lv_bipush (v := 99) hx hb dX6_vent_6 (by decide) ?_
  refine kcallS (As := [.int x, .int 1, .int 99]) (rest := []) (Wn := [rbC x0 (a 0) p0 q0 t0 k0 f0 w0, stO a (S 12 0) (S 12 1) (S 12 2) (S 12 3) (S 12 4) (S 12 5) (S 12 6) (S 12 7), flX cI cZ (a 1) (a 2) (a 3) (a 4) (a 5) (a 6) (a 7) (a 8) (S 0) (S 1) (S 2) (S 3) (S 4) (S 5) (S 6), ntX cI (a 9) (a 10) (a 11) (a 12) (S 7) (S 8) (S 9) (S 12 8), daX cI (a 13) (a 14) (S 10) (S 11)]) X (c_X6_checkRange l D cI cZ cS cJ x 1 99 h1 h2) (va_cwS 3 hts gX6_vent_X6_checkRange rfl rfl rfl (by decide +kernel) ⟨Nat.le_of_ble_eq_true rfl, Nat.le_of_ble_eq_true rfl⟩) hK hP hD hS hA [] rfl (by decide +kernel) rfl rfl rfl rfl hl.1 rfl (Nat.le_of_ble_eq_true rfl) dX6_vent_8 ⟨Nat.le_of_ble_eq_true rfl, Nat.le_of_ble_eq_true rfl⟩ (fun H locs hP hD hS => ?_)
  refine lv_aload_n hx hb dX6_vent_11 rfl (lv_at hl 0 rfl) ?_
  refine lv_iconst (v := 1) hx hb dX6_vent_12 (by decide) ?_
  refine lv_iload_n hx hb dX6_vent_13 rfl (lv_at hl 1 rfl) ?_
  refine lv_iload_n hx hb dX6_vent_14 rfl (lv_at hl 2 rfl) ?_
  refine kcallVT (As := [.int 1, .int (nI b), .int x]) (rest := []) X hZ (c_X6_perform1T l D cI cZ cS cJ hl9 x0 p0 q0 t0 k0 f0 w0 a S b x (by omega) hw) (cwV 3 hts gX6_vent_X6_perform rfl rfl rfl (by decide +kernel) ⟨Nat.le_of_ble_eq_true rfl, Nat.le_of_ble_eq_true rfl⟩) hK hP hD hS hA [0, 1, 2, 3, 4] rfl (by decide +kernel) 0 6 rfl rfl rfl hl.1 rfl (Nat.le_of_ble_eq_true rfl) dX6_vent_15 ⟨Nat.le_of_ble_eq_true rfl, Nat.le_of_ble_eq_true rfl⟩ (fun H locs q9 ce hP hS h1 h2 h3 => ?_)
  exact T_out hK ht hlk hP hD hS h1 h2 h3 ⟨Nat.le_of_ble_eq_true rfl, Nat.le_of_ble_eq_true rfl⟩

set_option maxHeartbeats 4000000 in
set_option maxRecDepth 100000 in
theorem c_X6_dropTS (l : Launch) (D : va_G) (cI cZ cS cJ : ClassId) (hl9 : l.stackTraces = false) (x0 : Nat) (p0 : Nat) (q0 : Nat) (t0 : Nat) (k0 : Nat) (f0 : Nat) (w0 : Int32) (a : Nat → Nat) (S : Nat → Nat → Int32) (b : Nat) (hb8 : b < 8) (hw : ¬ wn2 S b = 0) : CT l yX6_drop wsX6_drop ({ frames := 7, cells := 1, slots := 6, locals := 105 }) D (tyL cI cZ cS cJ) [.ref x0, .int (nI b)] (List.flatten [rbC x0 (a 0) p0 q0 t0 k0 f0 w0, stO a (S 12 0) (S 12 1) (S 12 2) (S 12 3) (S 12 4) (S 12 5) (S 12 6) (S 12 7), flX cI cZ (a 1) (a 2) (a 3) (a 4) (a 5) (a 6) (a 7) (a 8) (S 0) (S 1) (S 2) (S 3) (S 4) (S 5) (S 6), ntX cI (a 9) (a 10) (a 11) (a 12) (S 7) (S 8) (S 9) (S 12 8), daX cI (a 13) (a 14) (S 10) (S 11)]) xcS := by
  refine CT_gen (cc := cX6_drop) (maxL := 2) (ret := (some .int)) (by decide) rfl (Nat.le_of_ble_eq_true rfl) ?_
  intro p e s m below meth c ls X hK hP hD hS hA hl hZ ht hlk
  have X : CallFix p m c cX6_drop 2 s ([.ref x0, .int (nI b)] : List Value).toArray wsX6_drop RX6 := X
  obtain ⟨hx, hb, hml, hown, hts⟩ := id X
  have hl : lv_has ls 2 [(0, .ref x0), (1, .int (nI b))] := hl
  refine lv_iload_n hx hb dX6_drop_0 rfl (lv_at hl 1 rfl) ?_
  refine kcallS (As := [.int (nI b)]) (rest := []) (Wn := [rbC x0 (a 0) p0 q0 t0 k0 f0 w0, stO a (S 12 0) (S 12 1) (S 12 2) (S 12 3) (S 12 4) (S 12 5) (S 12 6) (S 12 7), flX cI cZ (a 1) (a 2) (a 3) (a 4) (a 5) (a 6) (a 7) (a 8) (S 0) (S 1) (S 2) (S 3) (S 4) (S 5) (S 6), ntX cI (a 9) (a 10) (a 11) (a 12) (S 7) (S 8) (S 9) (S 12 8), daX cI (a 13) (a 14) (S 10) (S 11)]) X (c_X6_checkBalloon l D cI cZ cS cJ b (by omega)) (va_cwS 1 hts gX6_drop_X6_checkBalloon rfl rfl rfl (by decide +kernel) ⟨Nat.le_of_ble_eq_true rfl, Nat.le_of_ble_eq_true rfl⟩) hK hP hD hS hA [] rfl (by decide +kernel) rfl rfl rfl rfl hl.1 rfl (Nat.le_of_ble_eq_true rfl) dX6_drop_1 ⟨Nat.le_of_ble_eq_true rfl, Nat.le_of_ble_eq_true rfl⟩ (fun H locs hP hD hS => ?_)
  refine lv_aload_n hx hb dX6_drop_4 rfl (lv_at hl 0 rfl) ?_
  refine lv_iconst (v := 2) hx hb dX6_drop_5 (by decide) ?_
  refine lv_iload_n hx hb dX6_drop_6 rfl (lv_at hl 1 rfl) ?_
  refine lv_iconst (v := 1) hx hb dX6_drop_7 (by decide) ?_
  refine kcallVT (As := [.int 2, .int (nI b), .int 1]) (rest := []) X hZ (c_X6_perform2T l D cI cZ cS cJ hl9 x0 p0 q0 t0 k0 f0 w0 a S b (by omega) hw) (cwV 3 hts gX6_drop_X6_perform rfl rfl rfl (by decide +kernel) ⟨Nat.le_of_ble_eq_true rfl, Nat.le_of_ble_eq_true rfl⟩) hK hP hD hS hA [0, 1, 2, 3, 4] rfl (by decide +kernel) 0 6 rfl rfl rfl hl.1 rfl (Nat.le_of_ble_eq_true rfl) dX6_drop_8 ⟨Nat.le_of_ble_eq_true rfl, Nat.le_of_ble_eq_true rfl⟩ (fun H locs q9 ce hP hS h1 h2 h3 => ?_)
  exact T_out hK ht hlk hP hD hS h1 h2 h3 ⟨Nat.le_of_ble_eq_true rfl, Nat.le_of_ble_eq_true rfl⟩

set_option maxHeartbeats 4000000 in
set_option maxRecDepth 100000 in
theorem c_X6_putTS (l : Launch) (D : va_G) (cI cZ cS cJ : ClassId) (hl9 : l.stackTraces = false) (x0 : Nat) (p0 : Nat) (q0 : Nat) (t0 : Nat) (k0 : Nat) (f0 : Nat) (w0 : Int32) (a : Nat → Nat) (S : Nat → Nat → Int32) (b : Nat) (hb8 : b < 8) (hw : ¬ wn3 S b = 0) : CT l yX6_put wsX6_put ({ frames := 7, cells := 1, slots := 6, locals := 105 }) D (tyL cI cZ cS cJ) [.ref x0, .int (nI b)] (List.flatten [rbC x0 (a 0) p0 q0 t0 k0 f0 w0, stO a (S 12 0) (S 12 1) (S 12 2) (S 12 3) (S 12 4) (S 12 5) (S 12 6) (S 12 7), flX cI cZ (a 1) (a 2) (a 3) (a 4) (a 5) (a 6) (a 7) (a 8) (S 0) (S 1) (S 2) (S 3) (S 4) (S 5) (S 6), ntX cI (a 9) (a 10) (a 11) (a 12) (S 7) (S 8) (S 9) (S 12 8), daX cI (a 13) (a 14) (S 10) (S 11)]) xcS := by
  refine CT_gen (cc := cX6_put) (maxL := 2) (ret := (some .int)) (by decide) rfl (Nat.le_of_ble_eq_true rfl) ?_
  intro p e s m below meth c ls X hK hP hD hS hA hl hZ ht hlk
  have X : CallFix p m c cX6_put 2 s ([.ref x0, .int (nI b)] : List Value).toArray wsX6_put RX6 := X
  obtain ⟨hx, hb, hml, hown, hts⟩ := id X
  have hl : lv_has ls 2 [(0, .ref x0), (1, .int (nI b))] := hl
  refine lv_iload_n hx hb dX6_put_0 rfl (lv_at hl 1 rfl) ?_
  refine kcallS (As := [.int (nI b)]) (rest := []) (Wn := [rbC x0 (a 0) p0 q0 t0 k0 f0 w0, stO a (S 12 0) (S 12 1) (S 12 2) (S 12 3) (S 12 4) (S 12 5) (S 12 6) (S 12 7), flX cI cZ (a 1) (a 2) (a 3) (a 4) (a 5) (a 6) (a 7) (a 8) (S 0) (S 1) (S 2) (S 3) (S 4) (S 5) (S 6), ntX cI (a 9) (a 10) (a 11) (a 12) (S 7) (S 8) (S 9) (S 12 8), daX cI (a 13) (a 14) (S 10) (S 11)]) X (c_X6_checkBalloon l D cI cZ cS cJ b (by omega)) (va_cwS 1 hts gX6_put_X6_checkBalloon rfl rfl rfl (by decide +kernel) ⟨Nat.le_of_ble_eq_true rfl, Nat.le_of_ble_eq_true rfl⟩) hK hP hD hS hA [] rfl (by decide +kernel) rfl rfl rfl rfl hl.1 rfl (Nat.le_of_ble_eq_true rfl) dX6_put_1 ⟨Nat.le_of_ble_eq_true rfl, Nat.le_of_ble_eq_true rfl⟩ (fun H locs hP hD hS => ?_)
  refine lv_aload_n hx hb dX6_put_4 rfl (lv_at hl 0 rfl) ?_
  refine lv_iconst (v := 3) hx hb dX6_put_5 (by decide) ?_
  refine lv_iload_n hx hb dX6_put_6 rfl (lv_at hl 1 rfl) ?_
  refine lv_iconst (v := 1) hx hb dX6_put_7 (by decide) ?_
  refine kcallVT (As := [.int 3, .int (nI b), .int 1]) (rest := []) X hZ (c_X6_perform3T l D cI cZ cS cJ hl9 x0 p0 q0 t0 k0 f0 w0 a S b (by omega) hw) (cwV 3 hts gX6_put_X6_perform rfl rfl rfl (by decide +kernel) ⟨Nat.le_of_ble_eq_true rfl, Nat.le_of_ble_eq_true rfl⟩) hK hP hD hS hA [0, 1, 2, 3, 4] rfl (by decide +kernel) 0 6 rfl rfl rfl hl.1 rfl (Nat.le_of_ble_eq_true rfl) dX6_put_8 ⟨Nat.le_of_ble_eq_true rfl, Nat.le_of_ble_eq_true rfl⟩ (fun H locs q9 ce hP hS h1 h2 h3 => ?_)
  exact T_out hK ht hlk hP hD hS h1 h2 h3 ⟨Nat.le_of_ble_eq_true rfl, Nat.le_of_ble_eq_true rfl⟩

set_option maxHeartbeats 4000000 in
set_option maxRecDepth 100000 in
theorem c_X6_tieTS (l : Launch) (D : va_G) (cI cZ cS cJ : ClassId) (hl9 : l.stackTraces = false) (x0 : Nat) (p0 : Nat) (q0 : Nat) (t0 : Nat) (k0 : Nat) (f0 : Nat) (w0 : Int32) (a : Nat → Nat) (S : Nat → Nat → Int32) (r : Nat) (x : Int32) (hr7 : r < 7) (h1 : ¬ x < 0) (h2 : x ≤ 300) (hw : ¬ wnt S r x = 0) : CT l yX6_tie wsX6_tie ({ frames := 7, cells := 1, slots := 6, locals := 105 }) D (tyL cI cZ cS cJ) [.ref x0, .int (nI r), .int x] (List.flatten [rbC x0 (a 0) p0 q0 t0 k0 f0 w0, stO a (S 12 0) (S 12 1) (S 12 2) (S 12 3) (S 12 4) (S 12 5) (S 12 6) (S 12 7), flX cI cZ (a 1) (a 2) (a 3) (a 4) (a 5) (a 6) (a 7) (a 8) (S 0) (S 1) (S 2) (S 3) (S 4) (S 5) (S 6), ntX cI (a 9) (a 10) (a 11) (a 12) (S 7) (S 8) (S 9) (S 12 8), daX cI (a 13) (a 14) (S 10) (S 11)]) xcS := by
  refine CT_gen (cc := cX6_tie) (maxL := 3) (ret := (some .int)) (by decide) rfl (Nat.le_of_ble_eq_true rfl) ?_
  intro p e s m below meth c ls X hK hP hD hS hA hl hZ ht hlk
  have X : CallFix p m c cX6_tie 3 s ([.ref x0, .int (nI r), .int x] : List Value).toArray wsX6_tie RX6 := X
  obtain ⟨hx, hb, hml, hown, hts⟩ := id X
  have hl : lv_has ls 3 [(0, .ref x0), (1, .int (nI r)), (2, .int x)] := hl
  refine lv_iload_n hx hb dX6_tie_0 rfl (lv_at hl 1 rfl) ?_
  refine kcallS (As := [.int (nI r)]) (rest := []) (Wn := [rbC x0 (a 0) p0 q0 t0 k0 f0 w0, stO a (S 12 0) (S 12 1) (S 12 2) (S 12 3) (S 12 4) (S 12 5) (S 12 6) (S 12 7), flX cI cZ (a 1) (a 2) (a 3) (a 4) (a 5) (a 6) (a 7) (a 8) (S 0) (S 1) (S 2) (S 3) (S 4) (S 5) (S 6), ntX cI (a 9) (a 10) (a 11) (a 12) (S 7) (S 8) (S 9) (S 12 8), daX cI (a 13) (a 14) (S 10) (S 11)]) X (c_X6_checkRibbon l D cI cZ cS cJ r (by omega)) (va_cwS 1 hts gX6_tie_X6_checkRibbon rfl rfl rfl (by decide +kernel) ⟨Nat.le_of_ble_eq_true rfl, Nat.le_of_ble_eq_true rfl⟩) hK hP hD hS hA [] rfl (by decide +kernel) rfl rfl rfl rfl hl.1 rfl (Nat.le_of_ble_eq_true rfl) dX6_tie_1 ⟨Nat.le_of_ble_eq_true rfl, Nat.le_of_ble_eq_true rfl⟩ (fun H locs hP hD hS => ?_)
  refine lv_iload_n hx hb dX6_tie_4 rfl (lv_at hl 2 rfl) ?_
  refine lv_iconst (v := 0) hx hb dX6_tie_5 (by decide) ?_
  refine lv_sipush (v := 300) hx hb dX6_tie_6 (by decide) ?_
  refine kcallS (As := [.int x, .int 0, .int 300]) (rest := []) (Wn := [rbC x0 (a 0) p0 q0 t0 k0 f0 w0, stO a (S 12 0) (S 12 1) (S 12 2) (S 12 3) (S 12 4) (S 12 5) (S 12 6) (S 12 7), flX cI cZ (a 1) (a 2) (a 3) (a 4) (a 5) (a 6) (a 7) (a 8) (S 0) (S 1) (S 2) (S 3) (S 4) (S 5) (S 6), ntX cI (a 9) (a 10) (a 11) (a 12) (S 7) (S 8) (S 9) (S 12 8), daX cI (a 13) (a 14) (S 10) (S 11)]) X (c_X6_checkRange l D cI cZ cS cJ x 0 300 h1 h2) (va_cwS 3 hts gX6_tie_X6_checkRange rfl rfl rfl (by decide +kernel) ⟨Nat.le_of_ble_eq_true rfl, Nat.le_of_ble_eq_true rfl⟩) hK hP hD hS hA [] rfl (by decide +kernel) rfl rfl rfl rfl hl.1 rfl (Nat.le_of_ble_eq_true rfl) dX6_tie_9 ⟨Nat.le_of_ble_eq_true rfl, Nat.le_of_ble_eq_true rfl⟩ (fun H locs hP hD hS => ?_)
  refine lv_aload_n hx hb dX6_tie_12 rfl (lv_at hl 0 rfl) ?_
  refine lv_iconst (v := 4) hx hb dX6_tie_13 (by decide) ?_
  refine lv_iload_n hx hb dX6_tie_14 rfl (lv_at hl 1 rfl) ?_
  refine lv_iload_n hx hb dX6_tie_15 rfl (lv_at hl 2 rfl) ?_
  refine kcallVT (As := [.int 4, .int (nI r), .int x]) (rest := []) X hZ (c_X6_perform4T l D cI cZ cS cJ hl9 x0 p0 q0 t0 k0 f0 w0 a S r x (by omega) hw) (cwV 3 hts gX6_tie_X6_perform rfl rfl rfl (by decide +kernel) ⟨Nat.le_of_ble_eq_true rfl, Nat.le_of_ble_eq_true rfl⟩) hK hP hD hS hA [0, 1, 2, 3, 4] rfl (by decide +kernel) 0 6 rfl rfl rfl hl.1 rfl (Nat.le_of_ble_eq_true rfl) dX6_tie_16 ⟨Nat.le_of_ble_eq_true rfl, Nat.le_of_ble_eq_true rfl⟩ (fun H locs q9 ce hP hS h1 h2 h3 => ?_)
  exact T_out hK ht hlk hP hD hS h1 h2 h3 ⟨Nat.le_of_ble_eq_true rfl, Nat.le_of_ble_eq_true rfl⟩

set_option maxHeartbeats 4000000 in
set_option maxRecDepth 100000 in
theorem c_X6_cutTS (l : Launch) (D : va_G) (cI cZ cS cJ : ClassId) (hl9 : l.stackTraces = false) (x0 : Nat) (p0 : Nat) (q0 : Nat) (t0 : Nat) (k0 : Nat) (f0 : Nat) (w0 : Int32) (a : Nat → Nat) (S : Nat → Nat → Int32) (r : Nat) (hr7 : r < 7) (hw : ¬ wn5 S r = 0) : CT l yX6_cut wsX6_cut ({ frames := 7, cells := 1, slots := 6, locals := 105 }) D (tyL cI cZ cS cJ) [.ref x0, .int (nI r)] (List.flatten [rbC x0 (a 0) p0 q0 t0 k0 f0 w0, stO a (S 12 0) (S 12 1) (S 12 2) (S 12 3) (S 12 4) (S 12 5) (S 12 6) (S 12 7), flX cI cZ (a 1) (a 2) (a 3) (a 4) (a 5) (a 6) (a 7) (a 8) (S 0) (S 1) (S 2) (S 3) (S 4) (S 5) (S 6), ntX cI (a 9) (a 10) (a 11) (a 12) (S 7) (S 8) (S 9) (S 12 8), daX cI (a 13) (a 14) (S 10) (S 11)]) xcS := by
  refine CT_gen (cc := cX6_cut) (maxL := 3) (ret := (some .int)) (by decide) rfl (Nat.le_of_ble_eq_true rfl) ?_
  intro p e s m below meth c ls X hK hP hD hS hA hl hZ ht hlk
  have X : CallFix p m c cX6_cut 3 s ([.ref x0, .int (nI r)] : List Value).toArray wsX6_cut RX6 := X
  obtain ⟨hx, hb, hml, hown, hts⟩ := id X
  have hl : lv_has ls 3 [(0, .ref x0), (1, .int (nI r))] := hl
  have hinX4 : ∀ w ∈ u_ws RX4 TX4 12, w ∈ wsX6_cut := by decide +kernel
  have hinX6 : ∀ w ∈ u_ws RX6 TX6 7, w ∈ wsX6_cut := by decide +kernel
  refine lv_iload_n hx hb dX6_cut_0 rfl (lv_at hl 1 rfl) ?_
  refine kcallS (As := [.int (nI r)]) (rest := []) (Wn := [rbC x0 (a 0) p0 q0 t0 k0 f0 w0, stO a (S 12 0) (S 12 1) (S 12 2) (S 12 3) (S 12 4) (S 12 5) (S 12 6) (S 12 7), flX cI cZ (a 1) (a 2) (a 3) (a 4) (a 5) (a 6) (a 7) (a 8) (S 0) (S 1) (S 2) (S 3) (S 4) (S 5) (S 6), ntX cI (a 9) (a 10) (a 11) (a 12) (S 7) (S 8) (S 9) (S 12 8), daX cI (a 13) (a 14) (S 10) (S 11)]) X (c_X6_checkRibbon l D cI cZ cS cJ r (by omega)) (va_cwS 1 hts gX6_cut_X6_checkRibbon rfl rfl rfl (by decide +kernel) ⟨Nat.le_of_ble_eq_true rfl, Nat.le_of_ble_eq_true rfl⟩) hK hP hD hS hA [] rfl (by decide +kernel) rfl rfl rfl rfl hl.1 rfl (Nat.le_of_ble_eq_true rfl) dX6_cut_1 ⟨Nat.le_of_ble_eq_true rfl, Nat.le_of_ble_eq_true rfl⟩ (fun H locs hP hD hS => ?_)
  refine lv_aload_n hx hb dX6_cut_4 rfl (lv_at hl 0 rfl) ?_
  refine va_get (D := D) (ci := 6) (v := .ref (a 0)) (C := RX6) (T := TX6) (N := 7) hx hb hts hinX6 hown hK hP 0 rfl rfl 0 (by decide) (hts (.fieldLink RX6 12 "RibbonBalloons" "now" "LRibbonBalloons$State;") (by decide +kernel)) (fun _ h9 => h9) rfl dX6_cut_5 ?_
  refine va_get (D := D) (ci := 4) (v := .ref (a 1)) (C := RX4) (T := TX4) (N := 12) hx hb hts hinX4 hown hK hP 1 rfl rfl 0 (by decide) (hts (.fieldLink RX6 62 "RibbonBalloons$State" "flock" "LRibbonBalloons$Flock;") (by decide +kernel)) (fun _ h9 => h9) rfl dX6_cut_8 ?_
  refine kcallV (As := []) (rest := []) (Wn := [rbC x0 (a 0) p0 q0 t0 k0 f0 w0, stO a (S 12 0) (S 12 1) (S 12 2) (S 12 3) (S 12 4) (S 12 5) (S 12 6) (S 12 7), flX cI cZ (a 1) (a 2) (a 3) (a 4) (a 5) (a 6) (a 7) (a 8) (S 0) (S 1) (S 2) (S 3) (S 4) (S 5) (S 6), ntX cI (a 9) (a 10) (a 11) (a 12) (S 7) (S 8) (S 9) (S 12 8), daX cI (a 13) (a 14) (S 10) (S 11)]) X (c_X0_allHeights l D cI cZ cS cJ (a 1) (a 2) (a 3) (a 4) (a 5) (a 6) (a 7) (a 8) S) (cwV 0 hts gX6_cut_X0_allHeights rfl rfl rfl (by decide +kernel) ⟨Nat.le_of_ble_eq_true rfl, Nat.le_of_ble_eq_true rfl⟩) hK hP hD hS hA [2] rfl (by decide +kernel) rfl rfl rfl 2 0 rfl rfl rfl hl.1 rfl (Nat.le_of_ble_eq_true rfl) dX6_cut_11 ⟨Nat.le_of_ble_eq_true rfl, Nat.le_of_ble_eq_true rfl⟩ (fun H locs hP hD hS => ?_)
  refine lv_istore_n (lv' := [(2, .int (sm (S 6) 8)), (0, .ref x0), (1, .int (nI r))]) hx hb dX6_cut_14 rfl hl (by decide) rfl (fun ls hl => ?_)
  refine lv_aload_n hx hb dX6_cut_15 rfl (lv_at hl 1 rfl) ?_
  refine lv_iconst (v := 5) hx hb dX6_cut_16 (by decide) ?_
  refine lv_iload_n hx hb dX6_cut_17 rfl (lv_at hl 2 rfl) ?_
  refine lv_iconst (v := 0) hx hb dX6_cut_18 (by decide) ?_
  refine kcallVT (As := [.int 5, .int (nI r), .int 0]) (rest := []) X hZ (c_X6_perform5T l D cI cZ cS cJ hl9 x0 p0 q0 t0 k0 f0 w0 a S r (by omega) hw) (cwV 3 hts gX6_cut_X6_perform rfl rfl rfl (by decide +kernel) ⟨Nat.le_of_ble_eq_true rfl, Nat.le_of_ble_eq_true rfl⟩) hK hP hD hS hA [0, 1, 2, 3, 4] rfl (by decide +kernel) 0 6 rfl rfl rfl hl.1 rfl (Nat.le_of_ble_eq_true rfl) dX6_cut_19 ⟨Nat.le_of_ble_eq_true rfl, Nat.le_of_ble_eq_true rfl⟩ (fun H locs q9 ce hP hS h1 h2 h3 => ?_)
  exact T_out hK ht hlk hP hD hS h1 h2 h3 ⟨Nat.le_of_ble_eq_true rfl, Nat.le_of_ble_eq_true rfl⟩

set_option maxHeartbeats 4000000 in
set_option maxRecDepth 100000 in
theorem c_X6_appendTS (l : Launch) (D : va_G) (cI cZ cS cJ : ClassId) (hl9 : l.stackTraces = false) (x0 : Nat) (p0 : Nat) (q0 : Nat) (t0 : Nat) (k0 : Nat) (f0 : Nat) (w0 : Int32) (a0 : Nat) (t1 : Nat) (Tx : Nat → Int32) (z : Nat) (x : Int32) (hz60 : z = 60) (h1 : ¬ x < 33) (h2 : x ≤ 126) : CT l yX6_append wsX6_append ({ frames := 6, cells := 1, slots := 6, locals := 82 }) D (tyL cI cZ cS cJ) [.ref x0, .int x] (List.flatten [rbC x0 a0 p0 q0 t0 k0 f0 w0, txC cI t0 t1 Tx (nI z)]) xcS := by
  refine CT_gen (cc := cX6_append) (maxL := 2) (ret := (some .int)) (by decide) rfl (Nat.le_of_ble_eq_true rfl) ?_
  intro p e s m below meth c ls X hK hP hD hS hA hl hZ ht hlk
  have X : CallFix p m c cX6_append 2 s ([.ref x0, .int x] : List Value).toArray wsX6_append RX6 := X
  obtain ⟨hx, hb, hml, hown, hts⟩ := id X
  have hl : lv_has ls 2 [(0, .ref x0), (1, .int x)] := hl
  have hinX5 : ∀ w ∈ u_ws RX5 TX5 2, w ∈ wsX6_append := by decide +kernel
  have hinX6 : ∀ w ∈ u_ws RX6 TX6 7, w ∈ wsX6_append := by decide +kernel
  refine lv_iload_n hx hb dX6_append_0 rfl (lv_at hl 1 rfl) ?_
  refine lv_bipush (v := 33) hx hb dX6_append_1 (by decide) ?_
  refine lv_bipush (v := 126) hx hb dX6_append_3 (by decide) ?_
  refine kcallS (As := [.int x, .int 33, .int 126]) (rest := []) (Wn := [rbC x0 a0 p0 q0 t0 k0 f0 w0, txC cI t0 t1 Tx (nI z)]) X (c_X6_checkRange l D cI cZ cS cJ x 33 126 h1 h2) (va_cwS 3 hts gX6_append_X6_checkRange rfl rfl rfl (by decide +kernel) ⟨Nat.le_of_ble_eq_true rfl, Nat.le_of_ble_eq_true rfl⟩) hK hP hD hS hA [] rfl (by decide +kernel) rfl rfl rfl rfl hl.1 rfl (Nat.le_of_ble_eq_true rfl) dX6_append_5 ⟨Nat.le_of_ble_eq_true rfl, Nat.le_of_ble_eq_true rfl⟩ (fun H locs hP hD hS => ?_)
  refine lv_aload_n hx hb dX6_append_8 rfl (lv_at hl 0 rfl) ?_
  refine va_get (D := D) (ci := 6) (v := .ref t0) (C := RX6) (T := TX6) (N := 7) hx hb hts hinX6 hown hK hP 0 rfl rfl 4 (by decide) (hts (.fieldLink RX6 33 "RibbonBalloons" "text" "LRibbonBalloons$Text;") (by decide +kernel)) (fun _ h9 => h9) rfl dX6_append_9 ?_
  refine va_get (D := D) (ci := 5) (v := .int (nI z)) (C := RX5) (T := TX5) (N := 2) hx hb hts hinX5 hown hK hP 1 rfl rfl 1 (by decide) (hts (.fieldLink RX6 118 "RibbonBalloons$Text" "length" "I") (by decide +kernel)) (fun _ h9 => h9) rfl dX6_append_12 ?_
  refine lv_bipush (v := 60) hx hb dX6_append_15 (by decide) ?_
  refine n_lt (i := z) (j := 60) (tgt := 30) hx hb (by omega) (by omega) dX6_append_17 (by decide) (fun h => absurd h (by omega)) (fun _ => ?_)
  obtain ⟨sa, hstr⟩ := hZ.2.1.1
  exact T_thr X hl9 hK hZ ht hlk hP hD hS hZ.1.2.1.2.2 hstr (by decide +kernel) (by decide +kernel) (by decide +kernel) (by decide +kernel) (by decide +kernel) (by decide +kernel) hl.1 dX6_append_20 dX6_append_23 dX6_append_24 dX6_append_26 dX6_append_29 ⟨Nat.le_of_ble_eq_true rfl, Nat.le_of_ble_eq_true rfl, Nat.le_of_ble_eq_true rfl, Nat.le_of_ble_eq_true rfl⟩ ⟨rfl, rfl⟩

set_option maxHeartbeats 4000000 in
set_option maxRecDepth 100000 in
theorem c_X6_goBackTS (l : Launch) (D : va_G) (cI cZ cS cJ : ClassId) (hl9 : l.stackTraces = false) (x0 : Nat) (p0 : Nat) (q0 : Nat) (t0 : Nat) (k0 : Nat) (f0 : Nat) (w0 : Int32) (a0 : Nat)  : CT l yX6_goBack wsX6_goBack ({ frames := 6, cells := 1, slots := 6, locals := 82 }) D (tyL cI cZ cS cJ) [.ref x0] (List.flatten [rbC x0 a0 p0 q0 t0 k0 f0 0]) xcS := by
  refine CT_gen (cc := cX6_goBack) (maxL := 1) (ret := (some .int)) (by decide) rfl (Nat.le_of_ble_eq_true rfl) ?_
  intro p e s m below meth c ls X hK hP hD hS hA hl hZ ht hlk
  have X : CallFix p m c cX6_goBack 1 s ([.ref x0] : List Value).toArray wsX6_goBack RX6 := X
  obtain ⟨hx, hb, hml, hown, hts⟩ := id X
  have hl : lv_has ls 1 [(0, .ref x0)] := hl
  have hinX6 : ∀ w ∈ u_ws RX6 TX6 7, w ∈ wsX6_goBack := by decide +kernel
  refine lv_aload_n hx hb dX6_goBack_0 rfl (lv_at hl 0 rfl) ?_
  refine va_get (D := D) (ci := 6) (v := .int 0) (C := RX6) (T := TX6) (N := 7) hx hb hts hinX6 hown hK hP 0 rfl rfl 2 (by decide) (hts (.fieldLink RX6 19 "RibbonBalloons" "hasSnapshot" "Z") (by decide +kernel)) (fun _ h9 => h9) rfl dX6_goBack_1 ?_
  refine lv_if_ne (tgt := 17) hx hb dX6_goBack_4 (by decide) (fun h => absurd h (by decide)) (fun _ => ?_)
  obtain ⟨sa, hstr⟩ := hZ.2.1.2.2.1
  exact T_thr X hl9 hK hZ ht hlk hP hD hS hZ.1.2.1.2.2 hstr (by decide +kernel) (by decide +kernel) (by decide +kernel) (by decide +kernel) (by decide +kernel) (by decide +kernel) hl.1 dX6_goBack_7 dX6_goBack_10 dX6_goBack_11 dX6_goBack_13 dX6_goBack_16 ⟨Nat.le_of_ble_eq_true rfl, Nat.le_of_ble_eq_true rfl, Nat.le_of_ble_eq_true rfl, Nat.le_of_ble_eq_true rfl⟩ ⟨rfl, rfl⟩

set_option maxHeartbeats 4000000 in
set_option maxRecDepth 100000 in
theorem c_X6_undoTS (l : Launch) (D : va_G) (cI cZ cS cJ : ClassId) (hl9 : l.stackTraces = false) (x0 : Nat) (p0 : Nat) (q0 : Nat) (t0 : Nat) (k0 : Nat) (f0 : Nat) (w0 : Int32) (a0 : Nat) (q1 : Nat) (f : Nat → Option Nat)  : CT l yX6_undo wsX6_undo ({ frames := 6, cells := 1, slots := 6, locals := 82 }) D (tyL cI cZ cS cJ) [.ref x0] (List.flatten [rbC x0 a0 p0 q0 t0 k0 f0 w0, hsC cS q0 q1 f (nI 0)]) xcS := by
  refine CT_gen (cc := cX6_undo) (maxL := 1) (ret := (some .int)) (by decide) rfl (Nat.le_of_ble_eq_true rfl) ?_
  intro p e s m below meth c ls X hK hP hD hS hA hl hZ ht hlk
  have X : CallFix p m c cX6_undo 1 s ([.ref x0] : List Value).toArray wsX6_undo RX6 := X
  obtain ⟨hx, hb, hml, hown, hts⟩ := id X
  have hl : lv_has ls 1 [(0, .ref x0)] := hl
  have hinX2 : ∀ w ∈ u_ws RX2 TX2 2, w ∈ wsX6_undo := by decide +kernel
  have hinX6 : ∀ w ∈ u_ws RX6 TX6 7, w ∈ wsX6_undo := by decide +kernel
  refine lv_aload_n hx hb dX6_undo_0 rfl (lv_at hl 0 rfl) ?_
  refine va_get (D := D) (ci := 6) (v := .ref q0) (C := RX6) (T := TX6) (N := 7) hx hb hts hinX6 hown hK hP 0 rfl rfl 3 (by decide) (hts (.fieldLink RX6 26 "RibbonBalloons" "history" "LRibbonBalloons$History;") (by decide +kernel)) (fun _ h9 => h9) rfl dX6_undo_1 ?_
  refine va_get (D := D) (ci := 2) (v := .int (nI 0)) (C := RX2) (T := TX2) (N := 2) hx hb hts hinX2 hown hK hP 1 rfl rfl 1 (by decide) (hts (.fieldLink RX6 162 "RibbonBalloons$History" "size" "I") (by decide +kernel)) (fun _ h9 => h9) rfl dX6_undo_4 ?_
  refine lv_if_ne (tgt := 20) hx hb dX6_undo_7 (by decide) (fun h => absurd h (by decide)) (fun _ => ?_)
  obtain ⟨sa, hstr⟩ := hZ.2.1.2.2.2.1
  exact T_thr X hl9 hK hZ ht hlk hP hD hS hZ.1.2.1.2.2 hstr (by decide +kernel) (by decide +kernel) (by decide +kernel) (by decide +kernel) (by decide +kernel) (by decide +kernel) hl.1 dX6_undo_10 dX6_undo_13 dX6_undo_14 dX6_undo_16 dX6_undo_19 ⟨Nat.le_of_ble_eq_true rfl, Nat.le_of_ble_eq_true rfl, Nat.le_of_ble_eq_true rfl, Nat.le_of_ble_eq_true rfl⟩ ⟨rfl, rfl⟩

set_option maxHeartbeats 4000000 in
set_option maxRecDepth 100000 in
theorem c_X6_workTA (l : Launch) (D : va_G) (cI cZ cS cJ : ClassId) (hl9 : l.stackTraces = false) (x0 : Nat) (p0 : Nat) (q0 : Nat) (t0 : Nat) (k0 : Nat) (f0 : Nat) (w0 : Int32) (a0 : Nat) (t1 : Nat) (Tx : Nat → Int32) (z : Nat) (hz60 : z ≤ 60) (hw : ¬ (rdS Tx z = 6 ∨ rdS Tx z = 7)) : CT l yX6_work wsX6_work ({ frames := 6, cells := 1, slots := 6, locals := 82 }) D (tyL cI cZ cS cJ) [.ref x0] (List.flatten [rbC x0 a0 p0 q0 t0 k0 f0 w0, txC cI t0 t1 Tx (nI z)]) xcA := by
  refine CT_gen (cc := cX6_work) (maxL := 5) (ret := (some .int)) (by decide) rfl (Nat.le_of_ble_eq_true rfl) ?_
  intro p e s m below meth c ls X hK hP hD hS hA hl hZ ht hlk
  have X : CallFix p m c cX6_work 5 s ([.ref x0] : List Value).toArray wsX6_work RX6 := X
  obtain ⟨hx, hb, hml, hown, hts⟩ := id X
  have hl : lv_has ls 5 [(0, .ref x0)] := hl
  have hinX6 : ∀ w ∈ u_ws RX6 TX6 7, w ∈ wsX6_work := by decide +kernel
  refine lv_aload_n hx hb dX6_work_0 rfl (lv_at hl 0 rfl) ?_
  refine va_get (D := D) (ci := 6) (v := .ref t0) (C := RX6) (T := TX6) (N := 7) hx hb hts hinX6 hown hK hP 0 rfl rfl 4 (by decide) (hts (.fieldLink RX6 33 "RibbonBalloons" "text" "LRibbonBalloons$Text;") (by decide +kernel)) (fun _ h9 => h9) rfl dX6_work_1 ?_
  refine kcallV (As := []) (rest := []) (Wn := [rbC x0 a0 p0 q0 t0 k0 f0 w0, txC cI t0 t1 Tx (nI z)]) X (c_X5_isComplete l D cI cZ cS cJ t0 t1 Tx (nI z) z rfl hz60) (cwV 0 hts gX6_work_X5_isComplete rfl rfl rfl (by decide +kernel) ⟨Nat.le_of_ble_eq_true rfl, Nat.le_of_ble_eq_true rfl⟩) hK hP hD hS hA [1] rfl (by decide +kernel) rfl rfl rfl 1 5 rfl rfl rfl hl.1 rfl (Nat.le_of_ble_eq_true rfl) dX6_work_4 ⟨Nat.le_of_ble_eq_true rfl, Nat.le_of_ble_eq_true rfl⟩ (fun H locs hP hD hS => ?_)
  refine lv_if_ne (tgt := 20) hx hb dX6_work_7 (by decide) (fun h => absurd h (not_not_intro (if_neg hw))) (fun _ => ?_)
  obtain ⟨sa, hstr⟩ := hZ.2.1.2.1
  exact T_thr X hl9 hK hZ ht hlk hP hD hS hZ.1.2.1.2.1 hstr (by decide +kernel) (by decide +kernel) (by decide +kernel) (by decide +kernel) (by decide +kernel) (by decide +kernel) hl.1 dX6_work_10 dX6_work_13 dX6_work_14 dX6_work_16 dX6_work_19 ⟨Nat.le_of_ble_eq_true rfl, Nat.le_of_ble_eq_true rfl, Nat.le_of_ble_eq_true rfl, Nat.le_of_ble_eq_true rfl⟩ ⟨rfl, rfl⟩

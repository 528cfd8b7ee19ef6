set_option maxHeartbeats 4000000 in
theorem h_fillN (l : Launch) (D : va_G) (cI cZ cS cJ : ClassId) (hl9 : l.stackTraces = false) (O k g a d : Nat → Nat) (w0 : Int32) (c : Nat → Nat → Nat) (f : Nat → Option Nat) (z : Nat) (V : Nat → Nat → Nat → Int32) (T : Nat → Int32) (n : Nat) (K G : Nat → Nat → Int32) (L : Nat → Int32) (v : Int32) (o : Nat) (ww : Int64) (b : Nat) (x : Int32) (hz6 : z ≤ 6) (hf : ∀ i, i < 6 → f i = some (c i 0)) (hO : OK (V 0)) (hb8 : b < 8) (h1 : ¬ x < 1) (h2 : x ≤ 99) (hw : wn0 (V 0) b x = 0) : CH (U := Unit) l yL_fill wsL_fill ({ frames := 8, cells := 1, slots := 6, locals := 133 }) D (tyL cI cZ cS cJ) [.ref (O 0), .int (nI b), .int x, .ref o] (List.flatten [arJ cJ o ww, clP cI cZ cS O k g a d w0 c f z V T n K G L v]) (fun _ => True) (fun _ => some (.int 0)) (fun u => List.flatten [arJ cJ o (((V 0) 0) b + x).toInt64, clP cI cZ cS O k g a d w0 (cN c z) (fN f z) (savZ z) (vput (savV V z) (mended (filS (V 0) b x))) T n K G L v]) 1 6 := by
  refine CH_int (cc := cL_fill) (maxL := 5) (rt := .int) (r := fun _ => 0) (by decide) rfl (Nat.le_of_ble_eq_true rfl) (fun _ _ => rfl) ?_
  intro p e s m below meth cd A ls Q X hK hP hD hS hA hl hZ htab hend
  have X : CallFix p m cd cL_fill 5 s ([.ref (O 0), .int (nI b), .int x, .ref o] : List Value).toArray wsL_fill RL := X
  obtain ⟨hx, hb, hml, hown, hts⟩ := id X
  have hl : lv_has ls 5 [(0, .ref (O 0)), (1, .int (nI b)), (2, .int x), (3, .ref o)] := hl
  refine lv_aload_n hx hb dL_fill_0 rfl (lv_at hl 3 rfl) ?_
  refine lv_iconst (v := 0) hx hb dL_fill_1 (by decide) ?_
  refine lv_aload_n hx hb dL_fill_2 rfl (lv_at hl 0 rfl) ?_
  refine lv_iload_n hx hb dL_fill_3 rfl (lv_at hl 1 rfl) ?_
  refine lv_iload_n hx hb dL_fill_4 rfl (lv_at hl 2 rfl) ?_
  refine kcallVJ (U := Unit) (As := [.int (nI b), .int x]) (rest := [.int 0, .ref o]) (Wr := [arJ cJ o ww]) (Wc := [clP cI cZ cS O k g a d w0 c f z V T n K G L v]) (Wo := fun u => [clP cI cZ cS O k g a d w0 (cN c z) (fN f z) (savZ z) (vput (savV V z) (mended (filS (V 0) b x))) T n K G L v]) X (k_fill l D cI cZ cS cJ O k g a d w0 c f z V T n K G L v b x hz6 hf hO hb8 h1 h2 hw) (cwV 2 hts gL_fill_X6_fill rfl rfl rfl (by decide +kernel) ⟨Nat.le_of_ble_eq_true rfl, Nat.le_of_ble_eq_true rfl⟩) hK hP hD hS hA 0 6 rfl rfl rfl hl.1 rfl (Nat.le_of_ble_eq_true rfl) dL_fill_5 ⟨Nat.le_of_ble_eq_true rfl, Nat.le_of_ble_eq_true rfl⟩ (fun u H locs hu hP hD hS => ?_)
  have hP : va_P D vwCl (List.flatten [arJ cJ o ww, clP cI cZ cS O k g a d w0 (cN c z) (fN f z) (savZ z) (vput (savV V z) (mended (filS (V 0) b x))) T n K G L v]) _ := hP
  have hD : va_D A (List.flatten [arJ cJ o ww, clP cI cZ cS O k g a d w0 (cN c z) (fN f z) (savZ z) (vput (savV V z) (mended (filS (V 0) b x))) T n K G L v]) := hD
  refine lv_i2l (v := (((V 0) 0) b + x).toInt64) hx hb dL_fill_8 rfl ?_
  refine r_last (w := ww) (x := (((V 0) 0) b + x).toInt64) (wn := List.flatten [arJ cJ o (((V 0) 0) b + x).toInt64, clP cI cZ cS O k g a d w0 (cN c z) (fN f z) (savZ z) (vput (savV V z) (mended (filS (V 0) b x))) T n K G L v]) hx hb hK hP hD hS 0 3 rfl rfl rfl dL_fill_9 (fun H locs hP hD hS => ?_)
  refine lv_goto (tgt := 25) hx hb dL_fill_10 (by decide) ?_
  refine lv_iconst (v := 0) hx hb dL_fill_25 (by decide) ?_
  refine W.widen (k := 1) (n := 6) (by omega) (by omega) ?_
  exact hend u 0 _ _ _ _ trivial rfl hP hD hS dL_fill_26

set_option maxHeartbeats 4000000 in
theorem h_fillTI (l : Launch) (D : va_G) (cI cZ cS cJ : ClassId) (hl9 : l.stackTraces = false) (O k g a d : Nat → Nat) (w0 : Int32) (c : Nat → Nat → Nat) (f : Nat → Option Nat) (z : Nat) (V : Nat → Nat → Nat → Int32) (T : Nat → Int32) (n : Nat) (K G : Nat → Nat → Int32) (L : Nat → Int32) (v : Int32) (o : Nat) (ww : Int64) (x : Int32) (y : Int32) (hT : ¬ isB x) : CH (U := Unit) l yL_fill wsL_fill ({ frames := 8, cells := 1, slots := 6, locals := 133 }) D (tyL cI cZ cS cJ) [.ref (O 0), .int x, .int y, .ref o] (List.flatten [arJ cJ o ww, clP cI cZ cS O k g a d w0 c f z V T n K G L v]) (fun _ => True) (fun _ => some (.int 1)) (fun u => List.flatten [arJ cJ o ww, clP cI cZ cS O k g a d w0 c f z V T n K G L v]) 1 6 := by
  refine CH_int (cc := cL_fill) (maxL := 5) (rt := .int) (r := fun _ => 1) (by decide) rfl (Nat.le_of_ble_eq_true rfl) (fun _ _ => rfl) ?_
  intro p e s m below meth cd A ls Q X hK hP hD hS hA hl hZ htab hend
  have X : CallFix p m cd cL_fill 5 s ([.ref (O 0), .int x, .int y, .ref o] : List Value).toArray wsL_fill RL := X
  obtain ⟨hx, hb, hml, hown, hts⟩ := id X
  have hl : lv_has ls 5 [(0, .ref (O 0)), (1, .int x), (2, .int y), (3, .ref o)] := hl
  refine lv_aload_n hx hb dL_fill_0 rfl (lv_at hl 3 rfl) ?_
  refine lv_iconst (v := 0) hx hb dL_fill_1 (by decide) ?_
  refine lv_aload_n hx hb dL_fill_2 rfl (lv_at hl 0 rfl) ?_
  refine lv_iload_n hx hb dL_fill_3 rfl (lv_at hl 1 rfl) ?_
  refine lv_iload_n hx hb dL_fill_4 rfl (lv_at hl 2 rfl) ?_
  refine kcallVT (As := [.int x, .int y]) (rest := [.int 0, .ref o]) (Wc := [clP cI cZ cS O k g a d w0 c f z V T n K G L v]) (Ws := [arJ cJ o ww, clP cI cZ cS O k g a d w0 c f z V T n K G L v]) X hZ (k_fillTI l D cI cZ cS cJ hl9 O k g a d w0 c f z V T n K G L v x y hT) (cwV 2 hts gL_fill_X6_fill rfl rfl rfl (by decide +kernel) ⟨Nat.le_of_ble_eq_true rfl, Nat.le_of_ble_eq_true rfl⟩) hK hP hD hS hA [1] rfl (by decide +kernel) 1 6 rfl rfl rfl hl.1 rfl (Nat.le_of_ble_eq_true rfl) dL_fill_5 ⟨Nat.le_of_ble_eq_true rfl, Nat.le_of_ble_eq_true rfl⟩ (fun H locs q9 ce hP hS h1 h2 h3 => ?_)
  refine vx_catch (own := RL) (name := xcI) hown [] ⟨0, 10, 13, 13⟩ [⟨0, 10, 17, 15⟩, ⟨0, 10, 21, 17⟩] (htab.trans rfl) (fun z9 hz9 => absurd hz9 List.not_mem_nil) (by decide) (by decide) (hts (.classLink RL 13 xcI) (by decide +kernel)) (va_Nw.use rfl hZ.1.2.1.1) h1 h2 h3 ?_
  refine lv_astore (lv' := [(4, .ref q9), (0, .ref (O 0)), (1, .int x), (2, .int y), (3, .ref o)]) hx hb dL_fill_13 hl (by decide) rfl (fun ls hl => ?_)
  refine lv_iconst (v := 1) hx hb dL_fill_15 (by decide) ?_
  refine W.widen (k := 1) (n := 6) (by omega) (by omega) ?_
  exact hend () 1 _ _ _ _ trivial rfl hP hD hS dL_fill_16

set_option maxHeartbeats 4000000 in
theorem h_fillTA (l : Launch) (D : va_G) (cI cZ cS cJ : ClassId) (hl9 : l.stackTraces = false) (O k g a d : Nat → Nat) (w0 : Int32) (c : Nat → Nat → Nat) (f : Nat → Option Nat) (z : Nat) (V : Nat → Nat → Nat → Int32) (T : Nat → Int32) (n : Nat) (K G : Nat → Nat → Int32) (L : Nat → Int32) (v : Int32) (o : Nat) (ww : Int64) (b : Nat) (x : Int32) (hb8 : b < 8) (hT : ¬ inR x 1 99) : CH (U := Unit) l yL_fill wsL_fill ({ frames := 8, cells := 1, slots := 6, locals := 133 }) D (tyL cI cZ cS cJ) [.ref (O 0), .int (nI b), .int x, .ref o] (List.flatten [arJ cJ o ww, clP cI cZ cS O k g a d w0 c f z V T n K G L v]) (fun _ => True) (fun _ => some (.int 2)) (fun u => List.flatten [arJ cJ o ww, clP cI cZ cS O k g a d w0 c f z V T n K G L v]) 1 6 := by
  refine CH_int (cc := cL_fill) (maxL := 5) (rt := .int) (r := fun _ => 2) (by decide) rfl (Nat.le_of_ble_eq_true rfl) (fun _ _ => rfl) ?_
  intro p e s m below meth cd A ls Q X hK hP hD hS hA hl hZ htab hend
  have X : CallFix p m cd cL_fill 5 s ([.ref (O 0), .int (nI b), .int x, .ref o] : List Value).toArray wsL_fill RL := X
  obtain ⟨hx, hb, hml, hown, hts⟩ := id X
  have hl : lv_has ls 5 [(0, .ref (O 0)), (1, .int (nI b)), (2, .int x), (3, .ref o)] := hl
  refine lv_aload_n hx hb dL_fill_0 rfl (lv_at hl 3 rfl) ?_
  refine lv_iconst (v := 0) hx hb dL_fill_1 (by decide) ?_
  refine lv_aload_n hx hb dL_fill_2 rfl (lv_at hl 0 rfl) ?_
  refine lv_iload_n hx hb dL_fill_3 rfl (lv_at hl 1 rfl) ?_
  refine lv_iload_n hx hb dL_fill_4 rfl (lv_at hl 2 rfl) ?_
  refine kcallVT (As := [.int (nI b), .int x]) (rest := [.int 0, .ref o]) (Wc := [clP cI cZ cS O k g a d w0 c f z V T n K G L v]) (Ws := [arJ cJ o ww, clP cI cZ cS O k g a d w0 c f z V T n K G L v]) X hZ (k_fillTA l D cI cZ cS cJ hl9 O k g a d w0 c f z V T n K G L v b x hb8 hT) (cwV 2 hts gL_fill_X6_fill rfl rfl rfl (by decide +kernel) ⟨Nat.le_of_ble_eq_true rfl, Nat.le_of_ble_eq_true rfl⟩) hK hP hD hS hA [1] rfl (by decide +kernel) 1 6 rfl rfl rfl hl.1 rfl (Nat.le_of_ble_eq_true rfl) dL_fill_5 ⟨Nat.le_of_ble_eq_true rfl, Nat.le_of_ble_eq_true rfl⟩ (fun H locs q9 ce hP hS h1 h2 h3 => ?_)
  refine vx_catch (own := RL) (name := xcA) hown [⟨0, 10, 13, 13⟩] ⟨0, 10, 17, 15⟩ [⟨0, 10, 21, 17⟩] (htab.trans rfl) (fun z9 hz9 => by obtain rfl := List.mem_singleton.mp hz9; exact Or.inr ⟨by decide, xcI, hts (.classLink RL 13 xcI) (by decide +kernel), hZ.1.2.2.1⟩) (by decide) (by decide) (hts (.classLink RL 15 xcA) (by decide +kernel)) (va_Nw.use rfl hZ.1.2.1.2.1) h1 h2 h3 ?_
  refine lv_astore (lv' := [(4, .ref q9), (0, .ref (O 0)), (1, .int (nI b)), (2, .int x), (3, .ref o)]) hx hb dL_fill_17 hl (by decide) rfl (fun ls hl => ?_)
  refine lv_iconst (v := 2) hx hb dL_fill_19 (by decide) ?_
  refine W.widen (k := 1) (n := 6) (by omega) (by omega) ?_
  exact hend () 2 _ _ _ _ trivial rfl hP hD hS dL_fill_20

set_option maxHeartbeats 4000000 in
theorem h_fillTS (l : Launch) (D : va_G) (cI cZ cS cJ : ClassId) (hl9 : l.stackTraces = false) (O k g a d : Nat → Nat) (w0 : Int32) (c : Nat → Nat → Nat) (f : Nat → Option Nat) (z : Nat) (V : Nat → Nat → Nat → Int32) (T : Nat → Int32) (n : Nat) (K G : Nat → Nat → Int32) (L : Nat → Int32) (v : Int32) (o : Nat) (ww : Int64) (b : Nat) (x : Int32) (hb8 : b < 8) (h1 : ¬ x < 1) (h2 : x ≤ 99) (hw : ¬ wn0 (V 0) b x = 0) : CH (U := Unit) l yL_fill wsL_fill ({ frames := 8, cells := 1, slots := 6, locals := 133 }) D (tyL cI cZ cS cJ) [.ref (O 0), .int (nI b), .int x, .ref o] (List.flatten [arJ cJ o ww, clP cI cZ cS O k g a d w0 c f z V T n K G L v]) (fun _ => True) (fun _ => some (.int 3)) (fun u => List.flatten [arJ cJ o ww, clP cI cZ cS O k g a d w0 c f z V T n K G L v]) 1 6 := by
  refine CH_int (cc := cL_fill) (maxL := 5) (rt := .int) (r := fun _ => 3) (by decide) rfl (Nat.le_of_ble_eq_true rfl) (fun _ _ => rfl) ?_
  intro p e s m below meth cd A ls Q X hK hP hD hS hA hl hZ htab hend
  have X : CallFix p m cd cL_fill 5 s ([.ref (O 0), .int (nI b), .int x, .ref o] : List Value).toArray wsL_fill RL := X
  obtain ⟨hx, hb, hml, hown, hts⟩ := id X
  have hl : lv_has ls 5 [(0, .ref (O 0)), (1, .int (nI b)), (2, .int x), (3, .ref o)] := hl
  refine lv_aload_n hx hb dL_fill_0 rfl (lv_at hl 3 rfl) ?_
  refine lv_iconst (v := 0) hx hb dL_fill_1 (by decide) ?_
  refine lv_aload_n hx hb dL_fill_2 rfl (lv_at hl 0 rfl) ?_
  refine lv_iload_n hx hb dL_fill_3 rfl (lv_at hl 1 rfl) ?_
  refine lv_iload_n hx hb dL_fill_4 rfl (lv_at hl 2 rfl) ?_
  refine kcallVT (As := [.int (nI b), .int x]) (rest := [.int 0, .ref o]) (Wc := [clP cI cZ cS O k g a d w0 c f z V T n K G L v]) (Ws := [arJ cJ o ww, clP cI cZ cS O k g a d w0 c f z V T n K G L v]) X hZ (k_fillTS l D cI cZ cS cJ hl9 O k g a d w0 c f z V T n K G L v b x hb8 h1 h2 hw) (cwV 2 hts gL_fill_X6_fill rfl rfl rfl (by decide +kernel) ⟨Nat.le_of_ble_eq_true rfl, Nat.le_of_ble_eq_true rfl⟩) hK hP hD hS hA [1] rfl (by decide +kernel) 1 6 rfl rfl rfl hl.1 rfl (Nat.le_of_ble_eq_true rfl) dL_fill_5 ⟨Nat.le_of_ble_eq_true rfl, Nat.le_of_ble_eq_true rfl⟩ (fun H locs q9 ce hP hS h1 h2 h3 => ?_)
  refine vx_catch (own := RL) (name := xcS) hown [⟨0, 10, 13, 13⟩, ⟨0, 10, 17, 15⟩] ⟨0, 10, 21, 17⟩ [] (htab.trans rfl) (fun z9 hz9 => by rcases List.mem_cons.mp hz9 with rfl | hz9; exact Or.inr ⟨by decide, xcI, hts (.classLink RL 13 xcI) (by decide +kernel), hZ.1.2.2.2.1⟩; obtain rfl := List.mem_singleton.mp hz9; exact Or.inr ⟨by decide, xcA, hts (.classLink RL 15 xcA) (by decide +kernel), hZ.1.2.2.2.2⟩) (by decide) (by decide) (hts (.classLink RL 17 xcS) (by decide +kernel)) (va_Nw.use rfl hZ.1.2.1.2.2) h1 h2 h3 ?_
  refine lv_astore (lv' := [(4, .ref q9), (0, .ref (O 0)), (1, .int (nI b)), (2, .int x), (3, .ref o)]) hx hb dL_fill_21 hl (by decide) rfl (fun ls hl => ?_)
  refine lv_iconst (v := 3) hx hb dL_fill_23 (by decide) ?_
  refine W.widen (k := 1) (n := 6) (by omega) (by omega) ?_
  exact hend () 3 _ _ _ _ trivial rfl hP hD hS dL_fill_24

set_option maxHeartbeats 4000000 in
theorem h_ventN (l : Launch) (D : va_G) (cI cZ cS cJ : ClassId) (hl9 : l.stackTraces = false) (O k g a d : Nat → Nat) (w0 : Int32) (c : Nat → Nat → Nat) (f : Nat → Option Nat) (z : Nat) (V : Nat → Nat → Nat → Int32) (T : Nat → Int32) (n : Nat) (K G : Nat → Nat → Int32) (L : Nat → Int32) (v : Int32) (o : Nat) (ww : Int64) (b : Nat) (x : Int32) (hz6 : z ≤ 6) (hf : ∀ i, i < 6 → f i = some (c i 0)) (hO : OK (V 0)) (hb8 : b < 8) (h1 : ¬ x < 1) (h2 : x ≤ 99) (hw : wn1 (V 0) b x = 0) : CH (U := Unit) l yL_vent wsL_vent ({ frames := 8, cells := 1, slots := 6, locals := 133 }) D (tyL cI cZ cS cJ) [.ref (O 0), .int (nI b), .int x, .ref o] (List.flatten [arJ cJ o ww, clP cI cZ cS O k g a d w0 c f z V T n K G L v]) (fun _ => True) (fun _ => some (.int 0)) (fun u => List.flatten [arJ cJ o (ht (venS (V 0) b x) b).toInt64, clP cI cZ cS O k g a d w0 (cN c z) (fN f z) (savZ z) (vput (savV V z) (mended (venS (V 0) b x))) T n K G L v]) 1 6 := by
  refine CH_int (cc := cL_vent) (maxL := 5) (rt := .int) (r := fun _ => 0) (by decide) rfl (Nat.le_of_ble_eq_true rfl) (fun _ _ => rfl) ?_
  intro p e s m below meth cd A ls Q X hK hP hD hS hA hl hZ htab hend
  have X : CallFix p m cd cL_vent 5 s ([.ref (O 0), .int (nI b), .int x, .ref o] : List Value).toArray wsL_vent RL := X
  obtain ⟨hx, hb, hml, hown, hts⟩ := id X
  have hl : lv_has ls 5 [(0, .ref (O 0)), (1, .int (nI b)), (2, .int x), (3, .ref o)] := hl
  refine lv_aload_n hx hb dL_vent_0 rfl (lv_at hl 3 rfl) ?_
  refine lv_iconst (v := 0) hx hb dL_vent_1 (by decide) ?_
  refine lv_aload_n hx hb dL_vent_2 rfl (lv_at hl 0 rfl) ?_
  refine lv_iload_n hx hb dL_vent_3 rfl (lv_at hl 1 rfl) ?_
  refine lv_iload_n hx hb dL_vent_4 rfl (lv_at hl 2 rfl) ?_
  refine kcallVJ (U := Unit) (As := [.int (nI b), .int x]) (rest := [.int 0, .ref o]) (Wr := [arJ cJ o ww]) (Wc := [clP cI cZ cS O k g a d w0 c f z V T n K G L v]) (Wo := fun u => [clP cI cZ cS O k g a d w0 (cN c z) (fN f z) (savZ z) (vput (savV V z) (mended (venS (V 0) b x))) T n K G L v]) X (k_vent l D cI cZ cS cJ O k g a d w0 c f z V T n K G L v b x hz6 hf hO hb8 h1 h2 hw) (cwV 2 hts gL_vent_X6_vent rfl rfl rfl (by decide +kernel) ⟨Nat.le_of_ble_eq_true rfl, Nat.le_of_ble_eq_true rfl⟩) hK hP hD hS hA 0 6 rfl rfl rfl hl.1 rfl (Nat.le_of_ble_eq_true rfl) dL_vent_5 ⟨Nat.le_of_ble_eq_true rfl, Nat.le_of_ble_eq_true rfl⟩ (fun u H locs hu hP hD hS => ?_)
  have hP : va_P D vwCl (List.flatten [arJ cJ o ww, clP cI cZ cS O k g a d w0 (cN c z) (fN f z) (savZ z) (vput (savV V z) (mended (venS (V 0) b x))) T n K G L v]) _ := hP
  have hD : va_D A (List.flatten [arJ cJ o ww, clP cI cZ cS O k g a d w0 (cN c z) (fN f z) (savZ z) (vput (savV V z) (mended (venS (V 0) b x))) T n K G L v]) := hD
  refine lv_i2l (v := (ht (venS (V 0) b x) b).toInt64) hx hb dL_vent_8 rfl ?_
  refine r_last (w := ww) (x := (ht (venS (V 0) b x) b).toInt64) (wn := List.flatten [arJ cJ o (ht (venS (V 0) b x) b).toInt64, clP cI cZ cS O k g a d w0 (cN c z) (fN f z) (savZ z) (vput (savV V z) (mended (venS (V 0) b x))) T n K G L v]) hx hb hK hP hD hS 0 3 rfl rfl rfl dL_vent_9 (fun H locs hP hD hS => ?_)
  refine lv_goto (tgt := 25) hx hb dL_vent_10 (by decide) ?_
  refine lv_iconst (v := 0) hx hb dL_vent_25 (by decide) ?_
  refine W.widen (k := 1) (n := 6) (by omega) (by omega) ?_
  exact hend u 0 _ _ _ _ trivial rfl hP hD hS dL_vent_26

set_option maxHeartbeats 4000000 in
theorem h_ventTI (l : Launch) (D : va_G) (cI cZ cS cJ : ClassId) (hl9 : l.stackTraces = false) (O k g a d : Nat → Nat) (w0 : Int32) (c : Nat → Nat → Nat) (f : Nat → Option Nat) (z : Nat) (V : Nat → Nat → Nat → Int32) (T : Nat → Int32) (n : Nat) (K G : Nat → Nat → Int32) (L : Nat → Int32) (v : Int32) (o : Nat) (ww : Int64) (x : Int32) (y : Int32) (hT : ¬ isB x) : CH (U := Unit) l yL_vent wsL_vent ({ frames := 8, cells := 1, slots := 6, locals := 133 }) D (tyL cI cZ cS cJ) [.ref (O 0), .int x, .int y, .ref o] (List.flatten [arJ cJ o ww, clP cI cZ cS O k g a d w0 c f z V T n K G L v]) (fun _ => True) (fun _ => some (.int 1)) (fun u => List.flatten [arJ cJ o ww, clP cI cZ cS O k g a d w0 c f z V T n K G L v]) 1 6 := by
  refine CH_int (cc := cL_vent) (maxL := 5) (rt := .int) (r := fun _ => 1) (by decide) rfl (Nat.le_of_ble_eq_true rfl) (fun _ _ => rfl) ?_
  intro p e s m below meth cd A ls Q X hK hP hD hS hA hl hZ htab hend
  have X : CallFix p m cd cL_vent 5 s ([.ref (O 0), .int x, .int y, .ref o] : List Value).toArray wsL_vent RL := X
  obtain ⟨hx, hb, hml, hown, hts⟩ := id X
  have hl : lv_has ls 5 [(0, .ref (O 0)), (1, .int x), (2, .int y), (3, .ref o)] := hl
  refine lv_aload_n hx hb dL_vent_0 rfl (lv_at hl 3 rfl) ?_
  refine lv_iconst (v := 0) hx hb dL_vent_1 (by decide) ?_
  refine lv_aload_n hx hb dL_vent_2 rfl (lv_at hl 0 rfl) ?_
  refine lv_iload_n hx hb dL_vent_3 rfl (lv_at hl 1 rfl) ?_
  refine lv_iload_n hx hb dL_vent_4 rfl (lv_at hl 2 rfl) ?_
  refine kcallVT (As := [.int x, .int y]) (rest := [.int 0, .ref o]) (Wc := [clP cI cZ cS O k g a d w0 c f z V T n K G L v]) (Ws := [arJ cJ o ww, clP cI cZ cS O k g a d w0 c f z V T n K G L v]) X hZ (k_ventTI l D cI cZ cS cJ hl9 O k g a d w0 c f z V T n K G L v x y hT) (cwV 2 hts gL_vent_X6_vent rfl rfl rfl (by decide +kernel) ⟨Nat.le_of_ble_eq_true rfl, Nat.le_of_ble_eq_true rfl⟩) hK hP hD hS hA [1] rfl (by decide +kernel) 1 6 rfl rfl rfl hl.1 rfl (Nat.le_of_ble_eq_true rfl) dL_vent_5 ⟨Nat.le_of_ble_eq_true rfl, Nat.le_of_ble_eq_true rfl⟩ (fun H locs q9 ce hP hS h1 h2 h3 => ?_)
  refine vx_catch (own := RL) (name := xcI) hown [] ⟨0, 10, 13, 13⟩ [⟨0, 10, 17, 15⟩, ⟨0, 10, 21, 17⟩] (htab.trans rfl) (fun z9 hz9 => absurd hz9 List.not_mem_nil) (by decide) (by decide) (hts (.classLink RL 13 xcI) (by decide +kernel)) (va_Nw.use rfl hZ.1.2.1.1) h1 h2 h3 ?_
  refine lv_astore (lv' := [(4, .ref q9), (0, .ref (O 0)), (1, .int x), (2, .int y), (3, .ref o)]) hx hb dL_vent_13 hl (by decide) rfl (fun ls hl => ?_)
  refine lv_iconst (v := 1) hx hb dL_vent_15 (by decide) ?_
  refine W.widen (k := 1) (n := 6) (by omega) (by omega) ?_
  exact hend () 1 _ _ _ _ trivial rfl hP hD hS dL_vent_16

set_option maxHeartbeats 4000000 in
theorem h_ventTA (l : Launch) (D : va_G) (cI cZ cS cJ : ClassId) (hl9 : l.stackTraces = false) (O k g a d : Nat → Nat) (w0 : Int32) (c : Nat → Nat → Nat) (f : Nat → Option Nat) (z : Nat) (V : Nat → Nat → Nat → Int32) (T : Nat → Int32) (n : Nat) (K G : Nat → Nat → Int32) (L : Nat → Int32) (v : Int32) (o : Nat) (ww : Int64) (b : Nat) (x : Int32) (hb8 : b < 8) (hT : ¬ inR x 1 99) : CH (U := Unit) l yL_vent wsL_vent ({ frames := 8, cells := 1, slots := 6, locals := 133 }) D (tyL cI cZ cS cJ) [.ref (O 0), .int (nI b), .int x, .ref o] (List.flatten [arJ cJ o ww, clP cI cZ cS O k g a d w0 c f z V T n K G L v]) (fun _ => True) (fun _ => some (.int 2)) (fun u => List.flatten [arJ cJ o ww, clP cI cZ cS O k g a d w0 c f z V T n K G L v]) 1 6 := by
  refine CH_int (cc := cL_vent) (maxL := 5) (rt := .int) (r := fun _ => 2) (by decide) rfl (Nat.le_of_ble_eq_true rfl) (fun _ _ => rfl) ?_
  intro p e s m below meth cd A ls Q X hK hP hD hS hA hl hZ htab hend
  have X : CallFix p m cd cL_vent 5 s ([.ref (O 0), .int (nI b), .int x, .ref o] : List Value).toArray wsL_vent RL := X
  obtain ⟨hx, hb, hml, hown, hts⟩ := id X
  have hl : lv_has ls 5 [(0, .ref (O 0)), (1, .int (nI b)), (2, .int x), (3, .ref o)] := hl
  refine lv_aload_n hx hb dL_vent_0 rfl (lv_at hl 3 rfl) ?_
  refine lv_iconst (v := 0) hx hb dL_vent_1 (by decide) ?_
  refine lv_aload_n hx hb dL_vent_2 rfl (lv_at hl 0 rfl) ?_
  refine lv_iload_n hx hb dL_vent_3 rfl (lv_at hl 1 rfl) ?_
  refine lv_iload_n hx hb dL_vent_4 rfl (lv_at hl 2 rfl) ?_
  refine kcallVT (As := [.int (nI b), .int x]) (rest := [.int 0, .ref o]) (Wc := [clP cI cZ cS O k g a d w0 c f z V T n K G L v]) (Ws := [arJ cJ o ww, clP cI cZ cS O k g a d w0 c f z V T n K G L v]) X hZ (k_ventTA l D cI cZ cS cJ hl9 O k g a d w0 c f z V T n K G L v b x hb8 hT) (cwV 2 hts gL_vent_X6_vent rfl rfl rfl (by decide +kernel) ⟨Nat.le_of_ble_eq_true rfl, Nat.le_of_ble_eq_true rfl⟩) hK hP hD hS hA [1] rfl (by decide +kernel) 1 6 rfl rfl rfl hl.1 rfl (Nat.le_of_ble_eq_true rfl) dL_vent_5 ⟨Nat.le_of_ble_eq_true rfl, Nat.le_of_ble_eq_true rfl⟩ (fun H locs q9 ce hP hS h1 h2 h3 => ?_)
  refine vx_catch (own := RL) (name := xcA) hown [⟨0, 10, 13, 13⟩] ⟨0, 10, 17, 15⟩ [⟨0, 10, 21, 17⟩] (htab.trans rfl) (fun z9 hz9 => by obtain rfl := List.mem_singleton.mp hz9; exact Or.inr ⟨by decide, xcI, hts (.classLink RL 13 xcI) (by decide +kernel), hZ.1.2.2.1⟩) (by decide) (by decide) (hts (.classLink RL 15 xcA) (by decide +kernel)) (va_Nw.use rfl hZ.1.2.1.2.1) h1 h2 h3 ?_
  refine lv_astore (lv' := [(4, .ref q9), (0, .ref (O 0)), (1, .int (nI b)), (2, .int x), (3, .ref o)]) hx hb dL_vent_17 hl (by decide) rfl (fun ls hl => ?_)
  refine lv_iconst (v := 2) hx hb dL_vent_19 (by decide) ?_
  refine W.widen (k := 1) (n := 6) (by omega) (by omega) ?_
  exact hend () 2 _ _ _ _ trivial rfl hP hD hS dL_vent_20

set_option maxHeartbeats 4000000 in
theorem h_ventTS (l : Launch) (D : va_G) (cI cZ cS cJ : ClassId) (hl9 : l.stackTraces = false) (O k g a d : Nat → Nat) (w0 : Int32) (c : Nat → Nat → Nat) (f : Nat → Option Nat) (z : Nat) (V : Nat → Nat → Nat → Int32) (T : Nat → Int32) (n : Nat) (K G : Nat → Nat → Int32) (L : Nat → Int32) (v : Int32) (o : Nat) (ww : Int64) (b : Nat) (x : Int32) (hb8 : b < 8) (h1 : ¬ x < 1) (h2 : x ≤ 99) (hw : ¬ wn1 (V 0) b x = 0) : CH (U := Unit) l yL_vent wsL_vent ({ frames := 8, cells := 1, slots := 6, locals := 133 }) D (tyL cI cZ cS cJ) [.ref (O 0), .int (nI b), .int x, .ref o] (List.flatten [arJ cJ o ww, clP cI cZ cS O k g a d w0 c f z V T n K G L v]) (fun _ => True) (fun _ => some (.int 3)) (fun u => List.flatten [arJ cJ o ww, clP cI cZ cS O k g a d w0 c f z V T n K G L v]) 1 6 := by
  refine CH_int (cc := cL_vent) (maxL := 5) (rt := .int) (r := fun _ => 3) (by decide) rfl (Nat.le_of_ble_eq_true rfl) (fun _ _ => rfl) ?_
  intro p e s m below meth cd A ls Q X hK hP hD hS hA hl hZ htab hend
  have X : CallFix p m cd cL_vent 5 s ([.ref (O 0), .int (nI b), .int x, .ref o] : List Value).toArray wsL_vent RL := X
  obtain ⟨hx, hb, hml, hown, hts⟩ := id X
  have hl : lv_has ls 5 [(0, .ref (O 0)), (1, .int (nI b)), (2, .int x), (3, .ref o)] := hl
  refine lv_aload_n hx hb dL_vent_0 rfl (lv_at hl 3 rfl) ?_
  refine lv_iconst (v := 0) hx hb dL_vent_1 (by decide) ?_
  refine lv_aload_n hx hb dL_vent_2 rfl (lv_at hl 0 rfl) ?_
  refine lv_iload_n hx hb dL_vent_3 rfl (lv_at hl 1 rfl) ?_
  refine lv_iload_n hx hb dL_vent_4 rfl (lv_at hl 2 rfl) ?_
  refine kcallVT (As := [.int (nI b), .int x]) (rest := [.int 0, .ref o]) (Wc := [clP cI cZ cS O k g a d w0 c f z V T n K G L v]) (Ws := [arJ cJ o ww, clP cI cZ cS O k g a d w0 c f z V T n K G L v]) X hZ (k_ventTS l D cI cZ cS cJ hl9 O k g a d w0 c f z V T n K G L v b x hb8 h1 h2 hw) (cwV 2 hts gL_vent_X6_vent rfl rfl rfl (by decide +kernel) ⟨Nat.le_of_ble_eq_true rfl, Nat.le_of_ble_eq_true rfl⟩) hK hP hD hS hA [1] rfl (by decide +kernel) 1 6 rfl rfl rfl hl.1 rfl (Nat.le_of_ble_eq_true rfl) dL_vent_5 ⟨Nat.le_of_ble_eq_true rfl, Nat.le_of_ble_eq_true rfl⟩ (fun H locs q9 ce hP hS h1 h2 h3 => ?_)
  refine vx_catch (own := RL) (name := xcS) hown [⟨0, 10, 13, 13⟩, ⟨0, 10, 17, 15⟩] ⟨0, 10, 21, 17⟩ [] (htab.trans rfl) (fun z9 hz9 => by rcases List.mem_cons.mp hz9 with rfl | hz9; exact Or.inr ⟨by decide, xcI, hts (.classLink RL 13 xcI) (by decide +kernel), hZ.1.2.2.2.1⟩; obtain rfl := List.mem_singleton.mp hz9; exact Or.inr ⟨by decide, xcA, hts (.classLink RL 15 xcA) (by decide +kernel), hZ.1.2.2.2.2⟩) (by decide) (by decide) (hts (.classLink RL 17 xcS) (by decide +kernel)) (va_Nw.use rfl hZ.1.2.1.2.2) h1 h2 h3 ?_
  refine lv_astore (lv' := [(4, .ref q9), (0, .ref (O 0)), (1, .int (nI b)), (2, .int x), (3, .ref o)]) hx hb dL_vent_21 hl (by decide) rfl (fun ls hl => ?_)
  refine lv_iconst (v := 3) hx hb dL_vent_23 (by decide) ?_
  refine W.widen (k := 1) (n := 6) (by omega) (by omega) ?_
  exact hend () 3 _ _ _ _ trivial rfl hP hD hS dL_vent_24

set_option maxHeartbeats 4000000 in
theorem h_dropN (l : Launch) (D : va_G) (cI cZ cS cJ : ClassId) (hl9 : l.stackTraces = false) (O k g a d : Nat → Nat) (w0 : Int32) (c : Nat → Nat → Nat) (f : Nat → Option Nat) (z : Nat) (V : Nat → Nat → Nat → Int32) (T : Nat → Int32) (n : Nat) (K G : Nat → Nat → Int32) (L : Nat → Int32) (v : Int32) (o : Nat) (ww : Int64) (b : Nat) (hz6 : z ≤ 6) (hf : ∀ i, i < 6 → f i = some (c i 0)) (hO : OK (V 0)) (hb8 : b < 8) (hw : wn2 (V 0) b = 0) : CH (U := Unit) l yL_drop wsL_drop ({ frames := 8, cells := 1, slots := 6, locals := 132 }) D (tyL cI cZ cS cJ) [.ref (O 0), .int (nI b), .ref o] (List.flatten [arJ cJ o ww, clP cI cZ cS O k g a d w0 c f z V T n K G L v]) (fun _ => True) (fun _ => some (.int 0)) (fun u => List.flatten [arJ cJ o (ht (droS (V 0) b) b).toInt64, clP cI cZ cS O k g a d w0 (cN c z) (fN f z) (savZ z) (vput (savV V z) (mended (droS (V 0) b))) T n K G L v]) 1 6 := by
  refine CH_int (cc := cL_drop) (maxL := 4) (rt := .int) (r := fun _ => 0) (by decide) rfl (Nat.le_of_ble_eq_true rfl) (fun _ _ => rfl) ?_
  intro p e s m below meth cd A ls Q X hK hP hD hS hA hl hZ htab hend
  have X : CallFix p m cd cL_drop 4 s ([.ref (O 0), .int (nI b), .ref o] : List Value).toArray wsL_drop RL := X
  obtain ⟨hx, hb, hml, hown, hts⟩ := id X
  have hl : lv_has ls 4 [(0, .ref (O 0)), (1, .int (nI b)), (2, .ref o)] := hl
  refine lv_aload_n hx hb dL_drop_0 rfl (lv_at hl 2 rfl) ?_
  refine lv_iconst (v := 0) hx hb dL_drop_1 (by decide) ?_
  refine lv_aload_n hx hb dL_drop_2 rfl (lv_at hl 0 rfl) ?_
  refine lv_iload_n hx hb dL_drop_3 rfl (lv_at hl 1 rfl) ?_
  refine kcallVJ (U := Unit) (As := [.int (nI b)]) (rest := [.int 0, .ref o]) (Wr := [arJ cJ o ww]) (Wc := [clP cI cZ cS O k g a d w0 c f z V T n K G L v]) (Wo := fun u => [clP cI cZ cS O k g a d w0 (cN c z) (fN f z) (savZ z) (vput (savV V z) (mended (droS (V 0) b))) T n K G L v]) X (k_drop l D cI cZ cS cJ O k g a d w0 c f z V T n K G L v b hz6 hf hO hb8 hw) (cwV 1 hts gL_drop_X6_drop rfl rfl rfl (by decide +kernel) ⟨Nat.le_of_ble_eq_true rfl, Nat.le_of_ble_eq_true rfl⟩) hK hP hD hS hA 0 6 rfl rfl rfl hl.1 rfl (Nat.le_of_ble_eq_true rfl) dL_drop_4 ⟨Nat.le_of_ble_eq_true rfl, Nat.le_of_ble_eq_true rfl⟩ (fun u H locs hu hP hD hS => ?_)
  have hP : va_P D vwCl (List.flatten [arJ cJ o ww, clP cI cZ cS O k g a d w0 (cN c z) (fN f z) (savZ z) (vput (savV V z) (mended (droS (V 0) b))) T n K G L v]) _ := hP
  have hD : va_D A (List.flatten [arJ cJ o ww, clP cI cZ cS O k g a d w0 (cN c z) (fN f z) (savZ z) (vput (savV V z) (mended (droS (V 0) b))) T n K G L v]) := hD
  refine lv_i2l (v := (ht (droS (V 0) b) b).toInt64) hx hb dL_drop_7 rfl ?_
  refine r_last (w := ww) (x := (ht (droS (V 0) b) b).toInt64) (wn := List.flatten [arJ cJ o (ht (droS (V 0) b) b).toInt64, clP cI cZ cS O k g a d w0 (cN c z) (fN f z) (savZ z) (vput (savV V z) (mended (droS (V 0) b))) T n K G L v]) hx hb hK hP hD hS 0 3 rfl rfl rfl dL_drop_8 (fun H locs hP hD hS => ?_)
  refine lv_goto (tgt := 18) hx hb dL_drop_9 (by decide) ?_
  refine lv_iconst (v := 0) hx hb dL_drop_18 (by decide) ?_
  refine W.widen (k := 1) (n := 6) (by omega) (by omega) ?_
  exact hend u 0 _ _ _ _ trivial rfl hP hD hS dL_drop_19

set_option maxHeartbeats 4000000 in
theorem h_dropTI (l : Launch) (D : va_G) (cI cZ cS cJ : ClassId) (hl9 : l.stackTraces = false) (O k g a d : Nat → Nat) (w0 : Int32) (c : Nat → Nat → Nat) (f : Nat → Option Nat) (z : Nat) (V : Nat → Nat → Nat → Int32) (T : Nat → Int32) (n : Nat) (K G : Nat → Nat → Int32) (L : Nat → Int32) (v : Int32) (o : Nat) (ww : Int64) (x : Int32) (hT : ¬ isB x) : CH (U := Unit) l yL_drop wsL_drop ({ frames := 8, cells := 1, slots := 6, locals := 132 }) D (tyL cI cZ cS cJ) [.ref (O 0), .int x, .ref o] (List.flatten [arJ cJ o ww, clP cI cZ cS O k g a d w0 c f z V T n K G L v]) (fun _ => True) (fun _ => some (.int 1)) (fun u => List.flatten [arJ cJ o ww, clP cI cZ cS O k g a d w0 c f z V T n K G L v]) 1 6 := by
  refine CH_int (cc := cL_drop) (maxL := 4) (rt := .int) (r := fun _ => 1) (by decide) rfl (Nat.le_of_ble_eq_true rfl) (fun _ _ => rfl) ?_
  intro p e s m below meth cd A ls Q X hK hP hD hS hA hl hZ htab hend
  have X : CallFix p m cd cL_drop 4 s ([.ref (O 0), .int x, .ref o] : List Value).toArray wsL_drop RL := X
  obtain ⟨hx, hb, hml, hown, hts⟩ := id X
  have hl : lv_has ls 4 [(0, .ref (O 0)), (1, .int x), (2, .ref o)] := hl
  refine lv_aload_n hx hb dL_drop_0 rfl (lv_at hl 2 rfl) ?_
  refine lv_iconst (v := 0) hx hb dL_drop_1 (by decide) ?_
  refine lv_aload_n hx hb dL_drop_2 rfl (lv_at hl 0 rfl) ?_
  refine lv_iload_n hx hb dL_drop_3 rfl (lv_at hl 1 rfl) ?_
  refine kcallVT (As := [.int x]) (rest := [.int 0, .ref o]) (Wc := [clP cI cZ cS O k g a d w0 c f z V T n K G L v]) (Ws := [arJ cJ o ww, clP cI cZ cS O k g a d w0 c f z V T n K G L v]) X hZ (k_dropTI l D cI cZ cS cJ hl9 O k g a d w0 c f z V T n K G L v x hT) (cwV 1 hts gL_drop_X6_drop rfl rfl rfl (by decide +kernel) ⟨Nat.le_of_ble_eq_true rfl, Nat.le_of_ble_eq_true rfl⟩) hK hP hD hS hA [1] rfl (by decide +kernel) 1 6 rfl rfl rfl hl.1 rfl (Nat.le_of_ble_eq_true rfl) dL_drop_4 ⟨Nat.le_of_ble_eq_true rfl, Nat.le_of_ble_eq_true rfl⟩ (fun H locs q9 ce hP hS h1 h2 h3 => ?_)
  refine vx_catch (own := RL) (name := xcI) hown [] ⟨0, 9, 12, 13⟩ [⟨0, 9, 15, 17⟩] (htab.trans rfl) (fun z9 hz9 => absurd hz9 List.not_mem_nil) (by decide) (by decide) (hts (.classLink RL 13 xcI) (by decide +kernel)) (va_Nw.use rfl hZ.1.2.1.1) h1 h2 h3 ?_
  refine lv_astore_n (lv' := [(3, .ref q9), (0, .ref (O 0)), (1, .int x), (2, .ref o)]) hx hb dL_drop_12 rfl hl (by decide) rfl (fun ls hl => ?_)
  refine lv_iconst (v := 1) hx hb dL_drop_13 (by decide) ?_
  refine W.widen (k := 1) (n := 6) (by omega) (by omega) ?_
  exact hend () 1 _ _ _ _ trivial rfl hP hD hS dL_drop_14

set_option maxHeartbeats 4000000 in
theorem h_dropTS (l : Launch) (D : va_G) (cI cZ cS cJ : ClassId) (hl9 : l.stackTraces = false) (O k g a d : Nat → Nat) (w0 : Int32) (c : Nat → Nat → Nat) (f : Nat → Option Nat) (z : Nat) (V : Nat → Nat → Nat → Int32) (T : Nat → Int32) (n : Nat) (K G : Nat → Nat → Int32) (L : Nat → Int32) (v : Int32) (o : Nat) (ww : Int64) (b : Nat) (hb8 : b < 8) (hw : ¬ wn2 (V 0) b = 0) : CH (U := Unit) l yL_drop wsL_drop ({ frames := 8, cells := 1, slots := 6, locals := 132 }) D (tyL cI cZ cS cJ) [.ref (O 0), .int (nI b), .ref o] (List.flatten [arJ cJ o ww, clP cI cZ cS O k g a d w0 c f z V T n K G L v]) (fun _ => True) (fun _ => some (.int 2)) (fun u => List.flatten [arJ cJ o ww, clP cI cZ cS O k g a d w0 c f z V T n K G L v]) 1 6 := by
  refine CH_int (cc := cL_drop) (maxL := 4) (rt := .int) (r := fun _ => 2) (by decide) rfl (Nat.le_of_ble_eq_true rfl) (fun _ _ => rfl) ?_
  intro p e s m below meth cd A ls Q X hK hP hD hS hA hl hZ htab hend
  have X : CallFix p m cd cL_drop 4 s ([.ref (O 0), .int (nI b), .ref o] : List Value).toArray wsL_drop RL := X
  obtain ⟨hx, hb, hml, hown, hts⟩ := id X
  have hl : lv_has ls 4 [(0, .ref (O 0)), (1, .int (nI b)), (2, .ref o)] := hl
  refine lv_aload_n hx hb dL_drop_0 rfl (lv_at hl 2 rfl) ?_
  refine lv_iconst (v := 0) hx hb dL_drop_1 (by decide) ?_
  refine lv_aload_n hx hb dL_drop_2 rfl (lv_at hl 0 rfl) ?_
  refine lv_iload_n hx hb dL_drop_3 rfl (lv_at hl 1 rfl) ?_
  refine kcallVT (As := [.int (nI b)]) (rest := [.int 0, .ref o]) (Wc := [clP cI cZ cS O k g a d w0 c f z V T n K G L v]) (Ws := [arJ cJ o ww, clP cI cZ cS O k g a d w0 c f z V T n K G L v]) X hZ (k_dropTS l D cI cZ cS cJ hl9 O k g a d w0 c f z V T n K G L v b hb8 hw) (cwV 1 hts gL_drop_X6_drop rfl rfl rfl (by decide +kernel) ⟨Nat.le_of_ble_eq_true rfl, Nat.le_of_ble_eq_true rfl⟩) hK hP hD hS hA [1] rfl (by decide +kernel) 1 6 rfl rfl rfl hl.1 rfl (Nat.le_of_ble_eq_true rfl) dL_drop_4 ⟨Nat.le_of_ble_eq_true rfl, Nat.le_of_ble_eq_true rfl⟩ (fun H locs q9 ce hP hS h1 h2 h3 => ?_)
  refine vx_catch (own := RL) (name := xcS) hown [⟨0, 9, 12, 13⟩] ⟨0, 9, 15, 17⟩ [] (htab.trans rfl) (fun z9 hz9 => by obtain rfl := List.mem_singleton.mp hz9; exact Or.inr ⟨by decide, xcI, hts (.classLink RL 13 xcI) (by decide +kernel), hZ.1.2.2.2.1⟩) (by decide) (by decide) (hts (.classLink RL 17 xcS) (by decide +kernel)) (va_Nw.use rfl hZ.1.2.1.2.2) h1 h2 h3 ?_
  refine lv_astore_n (lv' := [(3, .ref q9), (0, .ref (O 0)), (1, .int (nI b)), (2, .ref o)]) hx hb dL_drop_15 rfl hl (by decide) rfl (fun ls hl => ?_)
  refine lv_iconst (v := 2) hx hb dL_drop_16 (by decide) ?_
  refine W.widen (k := 1) (n := 6) (by omega) (by omega) ?_
  exact hend () 2 _ _ _ _ trivial rfl hP hD hS dL_drop_17

set_option maxHeartbeats 4000000 in
theorem h_putN (l : Launch) (D : va_G) (cI cZ cS cJ : ClassId) (hl9 : l.stackTraces = false) (O k g a d : Nat → Nat) (w0 : Int32) (c : Nat → Nat → Nat) (f : Nat → Option Nat) (z : Nat) (V : Nat → Nat → Nat → Int32) (T : Nat → Int32) (n : Nat) (K G : Nat → Nat → Int32) (L : Nat → Int32) (v : Int32) (o : Nat) (ww : Int64) (b : Nat) (hz6 : z ≤ 6) (hf : ∀ i, i < 6 → f i = some (c i 0)) (hO : OK (V 0)) (hb8 : b < 8) (hw : wn3 (V 0) b = 0) : CH (U := Unit) l yL_put wsL_put ({ frames := 8, cells := 1, slots := 6, locals := 132 }) D (tyL cI cZ cS cJ) [.ref (O 0), .int (nI b), .ref o] (List.flatten [arJ cJ o ww, clP cI cZ cS O k g a d w0 c f z V T n K G L v]) (fun _ => True) (fun _ => some (.int 0)) (fun u => List.flatten [arJ cJ o (((V 0) 1) b + 1).toInt64, clP cI cZ cS O k g a d w0 (cN c z) (fN f z) (savZ z) (vput (savV V z) (mended (putS (V 0) b))) T n K G L v]) 1 6 := by
  refine CH_int (cc := cL_put) (maxL := 4) (rt := .int) (r := fun _ => 0) (by decide) rfl (Nat.le_of_ble_eq_true rfl) (fun _ _ => rfl) ?_
  intro p e s m below meth cd A ls Q X hK hP hD hS hA hl hZ htab hend
  have X : CallFix p m cd cL_put 4 s ([.ref (O 0), .int (nI b), .ref o] : List Value).toArray wsL_put RL := X
  obtain ⟨hx, hb, hml, hown, hts⟩ := id X
  have hl : lv_has ls 4 [(0, .ref (O 0)), (1, .int (nI b)), (2, .ref o)] := hl
  refine lv_aload_n hx hb dL_put_0 rfl (lv_at hl 2 rfl) ?_
  refine lv_iconst (v := 0) hx hb dL_put_1 (by decide) ?_
  refine lv_aload_n hx hb dL_put_2 rfl (lv_at hl 0 rfl) ?_
  refine lv_iload_n hx hb dL_put_3 rfl (lv_at hl 1 rfl) ?_
  refine kcallVJ (U := Unit) (As := [.int (nI b)]) (rest := [.int 0, .ref o]) (Wr := [arJ cJ o ww]) (Wc := [clP cI cZ cS O k g a d w0 c f z V T n K G L v]) (Wo := fun u => [clP cI cZ cS O k g a d w0 (cN c z) (fN f z) (savZ z) (vput (savV V z) (mended (putS (V 0) b))) T n K G L v]) X (k_put l D cI cZ cS cJ O k g a d w0 c f z V T n K G L v b hz6 hf hO hb8 hw) (cwV 1 hts gL_put_X6_put rfl rfl rfl (by decide +kernel) ⟨Nat.le_of_ble_eq_true rfl, Nat.le_of_ble_eq_true rfl⟩) hK hP hD hS hA 0 6 rfl rfl rfl hl.1 rfl (Nat.le_of_ble_eq_true rfl) dL_put_4 ⟨Nat.le_of_ble_eq_true rfl, Nat.le_of_ble_eq_true rfl⟩ (fun u H locs hu hP hD hS => ?_)
  have hP : va_P D vwCl (List.flatten [arJ cJ o ww, clP cI cZ cS O k g a d w0 (cN c z) (fN f z) (savZ z) (vput (savV V z) (mended (putS (V 0) b))) T n K G L v]) _ := hP
  have hD : va_D A (List.flatten [arJ cJ o ww, clP cI cZ cS O k g a d w0 (cN c z) (fN f z) (savZ z) (vput (savV V z) (mended (putS (V 0) b))) T n K G L v]) := hD
  refine lv_i2l (v := (((V 0) 1) b + 1).toInt64) hx hb dL_put_7 rfl ?_
  refine r_last (w := ww) (x := (((V 0) 1) b + 1).toInt64) (wn := List.flatten [arJ cJ o (((V 0) 1) b + 1).toInt64, clP cI cZ cS O k g a d w0 (cN c z) (fN f z) (savZ z) (vput (savV V z) (mended (putS (V 0) b))) T n K G L v]) hx hb hK hP hD hS 0 3 rfl rfl rfl dL_put_8 (fun H locs hP hD hS => ?_)
  refine lv_goto (tgt := 18) hx hb dL_put_9 (by decide) ?_
  refine lv_iconst (v := 0) hx hb dL_put_18 (by decide) ?_
  refine W.widen (k := 1) (n := 6) (by omega) (by omega) ?_
  exact hend u 0 _ _ _ _ trivial rfl hP hD hS dL_put_19

set_option maxHeartbeats 4000000 in
theorem h_putTI (l : Launch) (D : va_G) (cI cZ cS cJ : ClassId) (hl9 : l.stackTraces = false) (O k g a d : Nat → Nat) (w0 : Int32) (c : Nat → Nat → Nat) (f : Nat → Option Nat) (z : Nat) (V : Nat → Nat → Nat → Int32) (T : Nat → Int32) (n : Nat) (K G : Nat → Nat → Int32) (L : Nat → Int32) (v : Int32) (o : Nat) (ww : Int64) (x : Int32) (hT : ¬ isB x) : CH (U := Unit) l yL_put wsL_put ({ frames := 8, cells := 1, slots := 6, locals := 132 }) D (tyL cI cZ cS cJ) [.ref (O 0), .int x, .ref o] (List.flatten [arJ cJ o ww, clP cI cZ cS O k g a d w0 c f z V T n K G L v]) (fun _ => True) (fun _ => some (.int 1)) (fun u => List.flatten [arJ cJ o ww, clP cI cZ cS O k g a d w0 c f z V T n K G L v]) 1 6 := by
  refine CH_int (cc := cL_put) (maxL := 4) (rt := .int) (r := fun _ => 1) (by decide) rfl (Nat.le_of_ble_eq_true rfl) (fun _ _ => rfl) ?_
  intro p e s m below meth cd A ls Q X hK hP hD hS hA hl hZ htab hend
  have X : CallFix p m cd cL_put 4 s ([.ref (O 0), .int x, .ref o] : List Value).toArray wsL_put RL := X
  obtain ⟨hx, hb, hml, hown, hts⟩ := id X
  have hl : lv_has ls 4 [(0, .ref (O 0)), (1, .int x), (2, .ref o)] := hl
  refine lv_aload_n hx hb dL_put_0 rfl (lv_at hl 2 rfl) ?_
  refine lv_iconst (v := 0) hx hb dL_put_1 (by decide) ?_
  refine lv_aload_n hx hb dL_put_2 rfl (lv_at hl 0 rfl) ?_
  refine lv_iload_n hx hb dL_put_3 rfl (lv_at hl 1 rfl) ?_
  refine kcallVT (As := [.int x]) (rest := [.int 0, .ref o]) (Wc := [clP cI cZ cS O k g a d w0 c f z V T n K G L v]) (Ws := [arJ cJ o ww, clP cI cZ cS O k g a d w0 c f z V T n K G L v]) X hZ (k_putTI l D cI cZ cS cJ hl9 O k g a d w0 c f z V T n K G L v x hT) (cwV 1 hts gL_put_X6_put rfl rfl rfl (by decide +kernel) ⟨Nat.le_of_ble_eq_true rfl, Nat.le_of_ble_eq_true rfl⟩) hK hP hD hS hA [1] rfl (by decide +kernel) 1 6 rfl rfl rfl hl.1 rfl (Nat.le_of_ble_eq_true rfl) dL_put_4 ⟨Nat.le_of_ble_eq_true rfl, Nat.le_of_ble_eq_true rfl⟩ (fun H locs q9 ce hP hS h1 h2 h3 => ?_)
  refine vx_catch (own := RL) (name := xcI) hown [] ⟨0, 9, 12, 13⟩ [⟨0, 9, 15, 17⟩] (htab.trans rfl) (fun z9 hz9 => absurd hz9 List.not_mem_nil) (by decide) (by decide) (hts (.classLink RL 13 xcI) (by decide +kernel)) (va_Nw.use rfl hZ.1.2.1.1) h1 h2 h3 ?_
  refine lv_astore_n (lv' := [(3, .ref q9), (0, .ref (O 0)), (1, .int x), (2, .ref o)]) hx hb dL_put_12 rfl hl (by decide) rfl (fun ls hl => ?_)
  refine lv_iconst (v := 1) hx hb dL_put_13 (by decide) ?_
  refine W.widen (k := 1) (n := 6) (by omega) (by omega) ?_
  exact hend () 1 _ _ _ _ trivial rfl hP hD hS dL_put_14

set_option maxHeartbeats 4000000 in
theorem h_putTS (l : Launch) (D : va_G) (cI cZ cS cJ : ClassId) (hl9 : l.stackTraces = false) (O k g a d : Nat → Nat) (w0 : Int32) (c : Nat → Nat → Nat) (f : Nat → Option Nat) (z : Nat) (V : Nat → Nat → Nat → Int32) (T : Nat → Int32) (n : Nat) (K G : Nat → Nat → Int32) (L : Nat → Int32) (v : Int32) (o : Nat) (ww : Int64) (b : Nat) (hb8 : b < 8) (hw : ¬ wn3 (V 0) b = 0) : CH (U := Unit) l yL_put wsL_put ({ frames := 8, cells := 1, slots := 6, locals := 132 }) D (tyL cI cZ cS cJ) [.ref (O 0), .int (nI b), .ref o] (List.flatten [arJ cJ o ww, clP cI cZ cS O k g a d w0 c f z V T n K G L v]) (fun _ => True) (fun _ => some (.int 2)) (fun u => List.flatten [arJ cJ o ww, clP cI cZ cS O k g a d w0 c f z V T n K G L v]) 1 6 := by
  refine CH_int (cc := cL_put) (maxL := 4) (rt := .int) (r := fun _ => 2) (by decide) rfl (Nat.le_of_ble_eq_true rfl) (fun _ _ => rfl) ?_
  intro p e s m below meth cd A ls Q X hK hP hD hS hA hl hZ htab hend
  have X : CallFix p m cd cL_put 4 s ([.ref (O 0), .int (nI b), .ref o] : List Value).toArray wsL_put RL := X
  obtain ⟨hx, hb, hml, hown, hts⟩ := id X
  have hl : lv_has ls 4 [(0, .ref (O 0)), (1, .int (nI b)), (2, .ref o)] := hl
  refine lv_aload_n hx hb dL_put_0 rfl (lv_at hl 2 rfl) ?_
  refine lv_iconst (v := 0) hx hb dL_put_1 (by decide) ?_
  refine lv_aload_n hx hb dL_put_2 rfl (lv_at hl 0 rfl) ?_
  refine lv_iload_n hx hb dL_put_3 rfl (lv_at hl 1 rfl) ?_
  refine kcallVT (As := [.int (nI b)]) (rest := [.int 0, .ref o]) (Wc := [clP cI cZ cS O k g a d w0 c f z V T n K G L v]) (Ws := [arJ cJ o ww, clP cI cZ cS O k g a d w0 c f z V T n K G L v]) X hZ (k_putTS l D cI cZ cS cJ hl9 O k g a d w0 c f z V T n K G L v b hb8 hw) (cwV 1 hts gL_put_X6_put rfl rfl rfl (by decide +kernel) ⟨Nat.le_of_ble_eq_true rfl, Nat.le_of_ble_eq_true rfl⟩) hK hP hD hS hA [1] rfl (by decide +kernel) 1 6 rfl rfl rfl hl.1 rfl (Nat.le_of_ble_eq_true rfl) dL_put_4 ⟨Nat.le_of_ble_eq_true rfl, Nat.le_of_ble_eq_true rfl⟩ (fun H locs q9 ce hP hS h1 h2 h3 => ?_)
  refine vx_catch (own := RL) (name := xcS) hown [⟨0, 9, 12, 13⟩] ⟨0, 9, 15, 17⟩ [] (htab.trans rfl) (fun z9 hz9 => by obtain rfl := List.mem_singleton.mp hz9; exact Or.inr ⟨by decide, xcI, hts (.classLink RL 13 xcI) (by decide +kernel), hZ.1.2.2.2.1⟩) (by decide) (by decide) (hts (.classLink RL 17 xcS) (by decide +kernel)) (va_Nw.use rfl hZ.1.2.1.2.2) h1 h2 h3 ?_
  refine lv_astore_n (lv' := [(3, .ref q9), (0, .ref (O 0)), (1, .int (nI b)), (2, .ref o)]) hx hb dL_put_15 rfl hl (by decide) rfl (fun ls hl => ?_)
  refine lv_iconst (v := 2) hx hb dL_put_16 (by decide) ?_
  refine W.widen (k := 1) (n := 6) (by omega) (by omega) ?_
  exact hend () 2 _ _ _ _ trivial rfl hP hD hS dL_put_17

set_option maxHeartbeats 4000000 in
theorem h_leakN (l : Launch) (D : va_G) (cI cZ cS cJ : ClassId) (hl9 : l.stackTraces = false) (O k g a d : Nat → Nat) (w0 : Int32) (c : Nat → Nat → Nat) (f : Nat → Option Nat) (z : Nat) (V : Nat → Nat → Nat → Int32) (T : Nat → Int32) (n : Nat) (K G : Nat → Nat → Int32) (L : Nat → Int32) (v : Int32) (o : Nat) (ww : Int64) (b : Nat) (x : Int32) (hz6 : z ≤ 6) (hf : ∀ i, i < 6 → f i = some (c i 0)) (hO : OK (V 0)) (hb8 : b < 8) (h1 : ¬ x < 0) (h2 : x ≤ 9) : CH (U := Unit) l yL_leak wsL_leak ({ frames := 8, cells := 1, slots := 6, locals := 127 }) D (tyL cI cZ cS cJ) [.ref (O 0), .int (nI b), .int x, .ref o] (List.flatten [arJ cJ o ww, clP cI cZ cS O k g a d w0 c f z V T n K G L v]) (fun _ => True) (fun _ => some (.int 0)) (fun u => List.flatten [arJ cJ o (((V 0) 2) b).toInt64, clP cI cZ cS O k g a d w0 (cN c z) (fN f z) (savZ z) (vput (savV V z) (leaS (V 0) b x)) T n K G L v]) 1 6 := by
  refine CH_int (cc := cL_leak) (maxL := 5) (rt := .int) (r := fun _ => 0) (by decide) rfl (Nat.le_of_ble_eq_true rfl) (fun _ _ => rfl) ?_
  intro p e s m below meth cd A ls Q X hK hP hD hS hA hl hZ htab hend
  have X : CallFix p m cd cL_leak 5 s ([.ref (O 0), .int (nI b), .int x, .ref o] : List Value).toArray wsL_leak RL := X
  obtain ⟨hx, hb, hml, hown, hts⟩ := id X
  have hl : lv_has ls 5 [(0, .ref (O 0)), (1, .int (nI b)), (2, .int x), (3, .ref o)] := hl
  refine lv_aload_n hx hb dL_leak_0 rfl (lv_at hl 3 rfl) ?_
  refine lv_iconst (v := 0) hx hb dL_leak_1 (by decide) ?_
  refine lv_aload_n hx hb dL_leak_2 rfl (lv_at hl 0 rfl) ?_
  refine lv_iload_n hx hb dL_leak_3 rfl (lv_at hl 1 rfl) ?_
  refine lv_iload_n hx hb dL_leak_4 rfl (lv_at hl 2 rfl) ?_
  refine kcallVJ (U := Unit) (As := [.int (nI b), .int x]) (rest := [.int 0, .ref o]) (Wr := [arJ cJ o ww]) (Wc := [clP cI cZ cS O k g a d w0 c f z V T n K G L v]) (Wo := fun u => [clP cI cZ cS O k g a d w0 (cN c z) (fN f z) (savZ z) (vput (savV V z) (leaS (V 0) b x)) T n K G L v]) X (k_leak l D cI cZ cS cJ O k g a d w0 c f z V T n K G L v b x hz6 hf hO hb8 h1 h2) (cwV 2 hts gL_leak_X6_leak rfl rfl rfl (by decide +kernel) ⟨Nat.le_of_ble_eq_true rfl, Nat.le_of_ble_eq_true rfl⟩) hK hP hD hS hA 0 6 rfl rfl rfl hl.1 rfl (Nat.le_of_ble_eq_true rfl) dL_leak_5 ⟨Nat.le_of_ble_eq_true rfl, Nat.le_of_ble_eq_true rfl⟩ (fun u H locs hu hP hD hS => ?_)
  have hP : va_P D vwCl (List.flatten [arJ cJ o ww, clP cI cZ cS O k g a d w0 (cN c z) (fN f z) (savZ z) (vput (savV V z) (leaS (V 0) b x)) T n K G L v]) _ := hP
  have hD : va_D A (List.flatten [arJ cJ o ww, clP cI cZ cS O k g a d w0 (cN c z) (fN f z) (savZ z) (vput (savV V z) (leaS (V 0) b x)) T n K G L v]) := hD
  refine lv_i2l (v := (((V 0) 2) b).toInt64) hx hb dL_leak_8 rfl ?_
  refine r_last (w := ww) (x := (((V 0) 2) b).toInt64) (wn := List.flatten [arJ cJ o (((V 0) 2) b).toInt64, clP cI cZ cS O k g a d w0 (cN c z) (fN f z) (savZ z) (vput (savV V z) (leaS (V 0) b x)) T n K G L v]) hx hb hK hP hD hS 0 3 rfl rfl rfl dL_leak_9 (fun H locs hP hD hS => ?_)
  refine lv_goto (tgt := 21) hx hb dL_leak_10 (by decide) ?_
  refine lv_iconst (v := 0) hx hb dL_leak_21 (by decide) ?_
  refine W.widen (k := 1) (n := 6) (by omega) (by omega) ?_
  exact hend u 0 _ _ _ _ trivial rfl hP hD hS dL_leak_22

set_option maxHeartbeats 4000000 in
theorem h_leakTI (l : Launch) (D : va_G) (cI cZ cS cJ : ClassId) (hl9 : l.stackTraces = false) (O k g a d : Nat → Nat) (w0 : Int32) (c : Nat → Nat → Nat) (f : Nat → Option Nat) (z : Nat) (V : Nat → Nat → Nat → Int32) (T : Nat → Int32) (n : Nat) (K G : Nat → Nat → Int32) (L : Nat → Int32) (v : Int32) (o : Nat) (ww : Int64) (x : Int32) (y : Int32) (hT : ¬ isB x) : CH (U := Unit) l yL_leak wsL_leak ({ frames := 8, cells := 1, slots := 6, locals := 127 }) D (tyL cI cZ cS cJ) [.ref (O 0), .int x, .int y, .ref o] (List.flatten [arJ cJ o ww, clP cI cZ cS O k g a d w0 c f z V T n K G L v]) (fun _ => True) (fun _ => some (.int 1)) (fun u => List.flatten [arJ cJ o ww, clP cI cZ cS O k g a d w0 c f z V T n K G L v]) 1 6 := by
  refine CH_int (cc := cL_leak) (maxL := 5) (rt := .int) (r := fun _ => 1) (by decide) rfl (Nat.le_of_ble_eq_true rfl) (fun _ _ => rfl) ?_
  intro p e s m below meth cd A ls Q X hK hP hD hS hA hl hZ htab hend
  have X : CallFix p m cd cL_leak 5 s ([.ref (O 0), .int x, .int y, .ref o] : List Value).toArray wsL_leak RL := X
  obtain ⟨hx, hb, hml, hown, hts⟩ := id X
  have hl : lv_has ls 5 [(0, .ref (O 0)), (1, .int x), (2, .int y), (3, .ref o)] := hl
  refine lv_aload_n hx hb dL_leak_0 rfl (lv_at hl 3 rfl) ?_
  refine lv_iconst (v := 0) hx hb dL_leak_1 (by decide) ?_
  refine lv_aload_n hx hb dL_leak_2 rfl (lv_at hl 0 rfl) ?_
  refine lv_iload_n hx hb dL_leak_3 rfl (lv_at hl 1 rfl) ?_
  refine lv_iload_n hx hb dL_leak_4 rfl (lv_at hl 2 rfl) ?_
  refine kcallVT (As := [.int x, .int y]) (rest := [.int 0, .ref o]) (Wc := [clP cI cZ cS O k g a d w0 c f z V T n K G L v]) (Ws := [arJ cJ o ww, clP cI cZ cS O k g a d w0 c f z V T n K G L v]) X hZ (k_leakTI l D cI cZ cS cJ hl9 O k g a d w0 c f z V T n K G L v x y hT) (cwV 2 hts gL_leak_X6_leak rfl rfl rfl (by decide +kernel) ⟨Nat.le_of_ble_eq_true rfl, Nat.le_of_ble_eq_true rfl⟩) hK hP hD hS hA [1] rfl (by decide +kernel) 1 6 rfl rfl rfl hl.1 rfl (Nat.le_of_ble_eq_true rfl) dL_leak_5 ⟨Nat.le_of_ble_eq_true rfl, Nat.le_of_ble_eq_true rfl⟩ (fun H locs q9 ce hP hS h1 h2 h3 => ?_)
  refine vx_catch (own := RL) (name := xcI) hown [] ⟨0, 10, 13, 13⟩ [⟨0, 10, 17, 15⟩] (htab.trans rfl) (fun z9 hz9 => absurd hz9 List.not_mem_nil) (by decide) (by decide) (hts (.classLink RL 13 xcI) (by decide +kernel)) (va_Nw.use rfl hZ.1.2.1.1) h1 h2 h3 ?_
  refine lv_astore (lv' := [(4, .ref q9), (0, .ref (O 0)), (1, .int x), (2, .int y), (3, .ref o)]) hx hb dL_leak_13 hl (by decide) rfl (fun ls hl => ?_)
  refine lv_iconst (v := 1) hx hb dL_leak_15 (by decide) ?_
  refine W.widen (k := 1) (n := 6) (by omega) (by omega) ?_
  exact hend () 1 _ _ _ _ trivial rfl hP hD hS dL_leak_16

set_option maxHeartbeats 4000000 in
theorem h_leakTA (l : Launch) (D : va_G) (cI cZ cS cJ : ClassId) (hl9 : l.stackTraces = false) (O k g a d : Nat → Nat) (w0 : Int32) (c : Nat → Nat → Nat) (f : Nat → Option Nat) (z : Nat) (V : Nat → Nat → Nat → Int32) (T : Nat → Int32) (n : Nat) (K G : Nat → Nat → Int32) (L : Nat → Int32) (v : Int32) (o : Nat) (ww : Int64) (b : Nat) (x : Int32) (hb8 : b < 8) (hT : ¬ inR x 0 9) : CH (U := Unit) l yL_leak wsL_leak ({ frames := 8, cells := 1, slots := 6, locals := 127 }) D (tyL cI cZ cS cJ) [.ref (O 0), .int (nI b), .int x, .ref o] (List.flatten [arJ cJ o ww, clP cI cZ cS O k g a d w0 c f z V T n K G L v]) (fun _ => True) (fun _ => some (.int 2)) (fun u => List.flatten [arJ cJ o ww, clP cI cZ cS O k g a d w0 c f z V T n K G L v]) 1 6 := by
  refine CH_int (cc := cL_leak) (maxL := 5) (rt := .int) (r := fun _ => 2) (by decide) rfl (Nat.le_of_ble_eq_true rfl) (fun _ _ => rfl) ?_
  intro p e s m below meth cd A ls Q X hK hP hD hS hA hl hZ htab hend
  have X : CallFix p m cd cL_leak 5 s ([.ref (O 0), .int (nI b), .int x, .ref o] : List Value).toArray wsL_leak RL := X
  obtain ⟨hx, hb, hml, hown, hts⟩ := id X
  have hl : lv_has ls 5 [(0, .ref (O 0)), (1, .int (nI b)), (2, .int x), (3, .ref o)] := hl
  refine lv_aload_n hx hb dL_leak_0 rfl (lv_at hl 3 rfl) ?_
  refine lv_iconst (v := 0) hx hb dL_leak_1 (by decide) ?_
  refine lv_aload_n hx hb dL_leak_2 rfl (lv_at hl 0 rfl) ?_
  refine lv_iload_n hx hb dL_leak_3 rfl (lv_at hl 1 rfl) ?_
  refine lv_iload_n hx hb dL_leak_4 rfl (lv_at hl 2 rfl) ?_
  refine kcallVT (As := [.int (nI b), .int x]) (rest := [.int 0, .ref o]) (Wc := [clP cI cZ cS O k g a d w0 c f z V T n K G L v]) (Ws := [arJ cJ o ww, clP cI cZ cS O k g a d w0 c f z V T n K G L v]) X hZ (k_leakTA l D cI cZ cS cJ hl9 O k g a d w0 c f z V T n K G L v b x hb8 hT) (cwV 2 hts gL_leak_X6_leak rfl rfl rfl (by decide +kernel) ⟨Nat.le_of_ble_eq_true rfl, Nat.le_of_ble_eq_true rfl⟩) hK hP hD hS hA [1] rfl (by decide +kernel) 1 6 rfl rfl rfl hl.1 rfl (Nat.le_of_ble_eq_true rfl) dL_leak_5 ⟨Nat.le_of_ble_eq_true rfl, Nat.le_of_ble_eq_true rfl⟩ (fun H locs q9 ce hP hS h1 h2 h3 => ?_)
  refine vx_catch (own := RL) (name := xcA) hown [⟨0, 10, 13, 13⟩] ⟨0, 10, 17, 15⟩ [] (htab.trans rfl) (fun z9 hz9 => by obtain rfl := List.mem_singleton.mp hz9; exact Or.inr ⟨by decide, xcI, hts (.classLink RL 13 xcI) (by decide +kernel), hZ.1.2.2.1⟩) (by decide) (by decide) (hts (.classLink RL 15 xcA) (by decide +kernel)) (va_Nw.use rfl hZ.1.2.1.2.1) h1 h2 h3 ?_
  refine lv_astore (lv' := [(4, .ref q9), (0, .ref (O 0)), (1, .int (nI b)), (2, .int x), (3, .ref o)]) hx hb dL_leak_17 hl (by decide) rfl (fun ls hl => ?_)
  refine lv_iconst (v := 2) hx hb dL_leak_19 (by decide) ?_
  refine W.widen (k := 1) (n := 6) (by omega) (by omega) ?_
  exact hend () 2 _ _ _ _ trivial rfl hP hD hS dL_leak_20

set_option maxHeartbeats 4000000 in
theorem h_tieN (l : Launch) (D : va_G) (cI cZ cS cJ : ClassId) (hl9 : l.stackTraces = false) (O k g a d : Nat → Nat) (w0 : Int32) (c : Nat → Nat → Nat) (f : Nat → Option Nat) (z : Nat) (V : Nat → Nat → Nat → Int32) (T : Nat → Int32) (n : Nat) (K G : Nat → Nat → Int32) (L : Nat → Int32) (v : Int32) (o : Nat) (ww : Int64) (r : Nat) (x : Int32) (hz6 : z ≤ 6) (hf : ∀ i, i < 6 → f i = some (c i 0)) (hO : OK (V 0)) (hr7 : r < 7) (h1 : ¬ x < 0) (h2 : x ≤ 300) (hw : wnt (V 0) r x = 0) : CH (U := Unit) l yL_tie wsL_tie ({ frames := 8, cells := 1, slots := 6, locals := 133 }) D (tyL cI cZ cS cJ) [.ref (O 0), .int (nI r), .int x, .ref o] (List.flatten [arJ cJ o ww, clP cI cZ cS O k g a d w0 c f z V T n K G L v]) (fun _ => True) (fun _ => some (.int 0)) (fun u => List.flatten [arJ cJ o (nI (se (mended (tieS (V 0) r x)) (7 - r) r - ss (mended (tieS (V 0) r x)) r + 1)).toInt64, clP cI cZ cS O k g a d w0 (cN c z) (fN f z) (savZ z) (vput (savV V z) (mended (tieS (V 0) r x))) T n K G L v]) 1 6 := by
  refine CH_int (cc := cL_tie) (maxL := 5) (rt := .int) (r := fun _ => 0) (by decide) rfl (Nat.le_of_ble_eq_true rfl) (fun _ _ => rfl) ?_
  intro p e s m below meth cd A ls Q X hK hP hD hS hA hl hZ htab hend
  have X : CallFix p m cd cL_tie 5 s ([.ref (O 0), .int (nI r), .int x, .ref o] : List Value).toArray wsL_tie RL := X
  obtain ⟨hx, hb, hml, hown, hts⟩ := id X
  have hl : lv_has ls 5 [(0, .ref (O 0)), (1, .int (nI r)), (2, .int x), (3, .ref o)] := hl
  refine lv_aload_n hx hb dL_tie_0 rfl (lv_at hl 3 rfl) ?_
  refine lv_iconst (v := 0) hx hb dL_tie_1 (by decide) ?_
  refine lv_aload_n hx hb dL_tie_2 rfl (lv_at hl 0 rfl) ?_
  refine lv_iload_n hx hb dL_tie_3 rfl (lv_at hl 1 rfl) ?_
  refine lv_iload_n hx hb dL_tie_4 rfl (lv_at hl 2 rfl) ?_
  refine kcallVJ (U := Unit) (As := [.int (nI r), .int x]) (rest := [.int 0, .ref o]) (Wr := [arJ cJ o ww]) (Wc := [clP cI cZ cS O k g a d w0 c f z V T n K G L v]) (Wo := fun u => [clP cI cZ cS O k g a d w0 (cN c z) (fN f z) (savZ z) (vput (savV V z) (mended (tieS (V 0) r x))) T n K G L v]) X (k_tie l D cI cZ cS cJ O k g a d w0 c f z V T n K G L v r x hz6 hf hO hr7 h1 h2 hw) (cwV 2 hts gL_tie_X6_tie rfl rfl rfl (by decide +kernel) ⟨Nat.le_of_ble_eq_true rfl, Nat.le_of_ble_eq_true rfl⟩) hK hP hD hS hA 0 6 rfl rfl rfl hl.1 rfl (Nat.le_of_ble_eq_true rfl) dL_tie_5 ⟨Nat.le_of_ble_eq_true rfl, Nat.le_of_ble_eq_true rfl⟩ (fun u H locs hu hP hD hS => ?_)
  have hP : va_P D vwCl (List.flatten [arJ cJ o ww, clP cI cZ cS O k g a d w0 (cN c z) (fN f z) (savZ z) (vput (savV V z) (mended (tieS (V 0) r x))) T n K G L v]) _ := hP
  have hD : va_D A (List.flatten [arJ cJ o ww, clP cI cZ cS O k g a d w0 (cN c z) (fN f z) (savZ z) (vput (savV V z) (mended (tieS (V 0) r x))) T n K G L v]) := hD
  refine lv_i2l (v := (nI (se (mended (tieS (V 0) r x)) (7 - r) r - ss (mended (tieS (V 0) r x)) r + 1)).toInt64) hx hb dL_tie_8 rfl ?_
  refine r_last (w := ww) (x := (nI (se (mended (tieS (V 0) r x)) (7 - r) r - ss (mended (tieS (V 0) r x)) r + 1)).toInt64) (wn := List.flatten [arJ cJ o (nI (se (mended (tieS (V 0) r x)) (7 - r) r - ss (mended (tieS (V 0) r x)) r + 1)).toInt64, clP cI cZ cS O k g a d w0 (cN c z) (fN f z) (savZ z) (vput (savV V z) (mended (tieS (V 0) r x))) T n K G L v]) hx hb hK hP hD hS 0 3 rfl rfl rfl dL_tie_9 (fun H locs hP hD hS => ?_)
  refine lv_goto (tgt := 25) hx hb dL_tie_10 (by decide) ?_
  refine lv_iconst (v := 0) hx hb dL_tie_25 (by decide) ?_
  refine W.widen (k := 1) (n := 6) (by omega) (by omega) ?_
  exact hend u 0 _ _ _ _ trivial rfl hP hD hS dL_tie_26

set_option maxHeartbeats 4000000 in
theorem h_tieTI (l : Launch) (D : va_G) (cI cZ cS cJ : ClassId) (hl9 : l.stackTraces = false) (O k g a d : Nat → Nat) (w0 : Int32) (c : Nat → Nat → Nat) (f : Nat → Option Nat) (z : Nat) (V : Nat → Nat → Nat → Int32) (T : Nat → Int32) (n : Nat) (K G : Nat → Nat → Int32) (L : Nat → Int32) (v : Int32) (o : Nat) (ww : Int64) (x : Int32) (y : Int32) (hT : ¬ isR x) : CH (U := Unit) l yL_tie wsL_tie ({ frames := 8, cells := 1, slots := 6, locals := 133 }) D (tyL cI cZ cS cJ) [.ref (O 0), .int x, .int y, .ref o] (List.flatten [arJ cJ o ww, clP cI cZ cS O k g a d w0 c f z V T n K G L v]) (fun _ => True) (fun _ => some (.int 1)) (fun u => List.flatten [arJ cJ o ww, clP cI cZ cS O k g a d w0 c f z V T n K G L v]) 1 6 := by
  refine CH_int (cc := cL_tie) (maxL := 5) (rt := .int) (r := fun _ => 1) (by decide) rfl (Nat.le_of_ble_eq_true rfl) (fun _ _ => rfl) ?_
  intro p e s m below meth cd A ls Q X hK hP hD hS hA hl hZ htab hend
  have X : CallFix p m cd cL_tie 5 s ([.ref (O 0), .int x, .int y, .ref o] : List Value).toArray wsL_tie RL := X
  obtain ⟨hx, hb, hml, hown, hts⟩ := id X
  have hl : lv_has ls 5 [(0, .ref (O 0)), (1, .int x), (2, .int y), (3, .ref o)] := hl
  refine lv_aload_n hx hb dL_tie_0 rfl (lv_at hl 3 rfl) ?_
  refine lv_iconst (v := 0) hx hb dL_tie_1 (by decide) ?_
  refine lv_aload_n hx hb dL_tie_2 rfl (lv_at hl 0 rfl) ?_
  refine lv_iload_n hx hb dL_tie_3 rfl (lv_at hl 1 rfl) ?_
  refine lv_iload_n hx hb dL_tie_4 rfl (lv_at hl 2 rfl) ?_
  refine kcallVT (As := [.int x, .int y]) (rest := [.int 0, .ref o]) (Wc := [clP cI cZ cS O k g a d w0 c f z V T n K G L v]) (Ws := [arJ cJ o ww, clP cI cZ cS O k g a d w0 c f z V T n K G L v]) X hZ (k_tieTI l D cI cZ cS cJ hl9 O k g a d w0 c f z V T n K G L v x y hT) (cwV 2 hts gL_tie_X6_tie rfl rfl rfl (by decide +kernel) ⟨Nat.le_of_ble_eq_true rfl, Nat.le_of_ble_eq_true rfl⟩) hK hP hD hS hA [1] rfl (by decide +kernel) 1 6 rfl rfl rfl hl.1 rfl (Nat.le_of_ble_eq_true rfl) dL_tie_5 ⟨Nat.le_of_ble_eq_true rfl, Nat.le_of_ble_eq_true rfl⟩ (fun H locs q9 ce hP hS h1 h2 h3 => ?_)
  refine vx_catch (own := RL) (name := xcI) hown [] ⟨0, 10, 13, 13⟩ [⟨0, 10, 17, 15⟩, ⟨0, 10, 21, 17⟩] (htab.trans rfl) (fun z9 hz9 => absurd hz9 List.not_mem_nil) (by decide) (by decide) (hts (.classLink RL 13 xcI) (by decide +kernel)) (va_Nw.use rfl hZ.1.2.1.1) h1 h2 h3 ?_
  refine lv_astore (lv' := [(4, .ref q9), (0, .ref (O 0)), (1, .int x), (2, .int y), (3, .ref o)]) hx hb dL_tie_13 hl (by decide) rfl (fun ls hl => ?_)
  refine lv_iconst (v := 1) hx hb dL_tie_15 (by decide) ?_
  refine W.widen (k := 1) (n := 6) (by omega) (by omega) ?_
  exact hend () 1 _ _ _ _ trivial rfl hP hD hS dL_tie_16

set_option maxHeartbeats 4000000 in
theorem h_tieTA (l : Launch) (D : va_G) (cI cZ cS cJ : ClassId) (hl9 : l.stackTraces = false) (O k g a d : Nat → Nat) (w0 : Int32) (c : Nat → Nat → Nat) (f : Nat → Option Nat) (z : Nat) (V : Nat → Nat → Nat → Int32) (T : Nat → Int32) (n : Nat) (K G : Nat → Nat → Int32) (L : Nat → Int32) (v : Int32) (o : Nat) (ww : Int64) (r : Nat) (x : Int32) (hr7 : r < 7) (hT : ¬ inR x 0 300) : CH (U := Unit) l yL_tie wsL_tie ({ frames := 8, cells := 1, slots := 6, locals := 133 }) D (tyL cI cZ cS cJ) [.ref (O 0), .int (nI r), .int x, .ref o] (List.flatten [arJ cJ o ww, clP cI cZ cS O k g a d w0 c f z V T n K G L v]) (fun _ => True) (fun _ => some (.int 2)) (fun u => List.flatten [arJ cJ o ww, clP cI cZ cS O k g a d w0 c f z V T n K G L v]) 1 6 := by
  refine CH_int (cc := cL_tie) (maxL := 5) (rt := .int) (r := fun _ => 2) (by decide) rfl (Nat.le_of_ble_eq_true rfl) (fun _ _ => rfl) ?_
  intro p e s m below meth cd A ls Q X hK hP hD hS hA hl hZ htab hend
  have X : CallFix p m cd cL_tie 5 s ([.ref (O 0), .int (nI r), .int x, .ref o] : List Value).toArray wsL_tie RL := X
  obtain ⟨hx, hb, hml, hown, hts⟩ := id X
  have hl : lv_has ls 5 [(0, .ref (O 0)), (1, .int (nI r)), (2, .int x), (3, .ref o)] := hl
  refine lv_aload_n hx hb dL_tie_0 rfl (lv_at hl 3 rfl) ?_
  refine lv_iconst (v := 0) hx hb dL_tie_1 (by decide) ?_
  refine lv_aload_n hx hb dL_tie_2 rfl (lv_at hl 0 rfl) ?_
  refine lv_iload_n hx hb dL_tie_3 rfl (lv_at hl 1 rfl) ?_
  refine lv_iload_n hx hb dL_tie_4 rfl (lv_at hl 2 rfl) ?_
  refine kcallVT (As := [.int (nI r), .int x]) (rest := [.int 0, .ref o]) (Wc := [clP cI cZ cS O k g a d w0 c f z V T n K G L v]) (Ws := [arJ cJ o ww, clP cI cZ cS O k g a d w0 c f z V T n K G L v]) X hZ (k_tieTA l D cI cZ cS cJ hl9 O k g a d w0 c f z V T n K G L v r x hr7 hT) (cwV 2 hts gL_tie_X6_tie rfl rfl rfl (by decide +kernel) ⟨Nat.le_of_ble_eq_true rfl, Nat.le_of_ble_eq_true rfl⟩) hK hP hD hS hA [1] rfl (by decide +kernel) 1 6 rfl rfl rfl hl.1 rfl (Nat.le_of_ble_eq_true rfl) dL_tie_5 ⟨Nat.le_of_ble_eq_true rfl, Nat.le_of_ble_eq_true rfl⟩ (fun H locs q9 ce hP hS h1 h2 h3 => ?_)
  refine vx_catch (own := RL) (name := xcA) hown [⟨0, 10, 13, 13⟩] ⟨0, 10, 17, 15⟩ [⟨0, 10, 21, 17⟩] (htab.trans rfl) (fun z9 hz9 => by obtain rfl := List.mem_singleton.mp hz9; exact Or.inr ⟨by decide, xcI, hts (.classLink RL 13 xcI) (by decide +kernel), hZ.1.2.2.1⟩) (by decide) (by decide) (hts (.classLink RL 15 xcA) (by decide +kernel)) (va_Nw.use rfl hZ.1.2.1.2.1) h1 h2 h3 ?_
  refine lv_astore (lv' := [(4, .ref q9), (0, .ref (O 0)), (1, .int (nI r)), (2, .int x), (3, .ref o)]) hx hb dL_tie_17 hl (by decide) rfl (fun ls hl => ?_)
  refine lv_iconst (v := 2) hx hb dL_tie_19 (by decide) ?_
  refine W.widen (k := 1) (n := 6) (by omega) (by omega) ?_
  exact hend () 2 _ _ _ _ trivial rfl hP hD hS dL_tie_20

set_option maxHeartbeats 4000000 in
theorem h_tieTS (l : Launch) (D : va_G) (cI cZ cS cJ : ClassId) (hl9 : l.stackTraces = false) (O k g a d : Nat → Nat) (w0 : Int32) (c : Nat → Nat → Nat) (f : Nat → Option Nat) (z : Nat) (V : Nat → Nat → Nat → Int32) (T : Nat → Int32) (n : Nat) (K G : Nat → Nat → Int32) (L : Nat → Int32) (v : Int32) (o : Nat) (ww : Int64) (r : Nat) (x : Int32) (hr7 : r < 7) (h1 : ¬ x < 0) (h2 : x ≤ 300) (hw : ¬ wnt (V 0) r x = 0) : CH (U := Unit) l yL_tie wsL_tie ({ frames := 8, cells := 1, slots := 6, locals := 133 }) D (tyL cI cZ cS cJ) [.ref (O 0), .int (nI r), .int x, .ref o] (List.flatten [arJ cJ o ww, clP cI cZ cS O k g a d w0 c f z V T n K G L v]) (fun _ => True) (fun _ => some (.int 3)) (fun u => List.flatten [arJ cJ o ww, clP cI cZ cS O k g a d w0 c f z V T n K G L v]) 1 6 := by
  refine CH_int (cc := cL_tie) (maxL := 5) (rt := .int) (r := fun _ => 3) (by decide) rfl (Nat.le_of_ble_eq_true rfl) (fun _ _ => rfl) ?_
  intro p e s m below meth cd A ls Q X hK hP hD hS hA hl hZ htab hend
  have X : CallFix p m cd cL_tie 5 s ([.ref (O 0), .int (nI r), .int x, .ref o] : List Value).toArray wsL_tie RL := X
  obtain ⟨hx, hb, hml, hown, hts⟩ := id X
  have hl : lv_has ls 5 [(0, .ref (O 0)), (1, .int (nI r)), (2, .int x), (3, .ref o)] := hl
  refine lv_aload_n hx hb dL_tie_0 rfl (lv_at hl 3 rfl) ?_
  refine lv_iconst (v := 0) hx hb dL_tie_1 (by decide) ?_
  refine lv_aload_n hx hb dL_tie_2 rfl (lv_at hl 0 rfl) ?_
  refine lv_iload_n hx hb dL_tie_3 rfl (lv_at hl 1 rfl) ?_
  refine lv_iload_n hx hb dL_tie_4 rfl (lv_at hl 2 rfl) ?_
  refine kcallVT (As := [.int (nI r), .int x]) (rest := [.int 0, .ref o]) (Wc := [clP cI cZ cS O k g a d w0 c f z V T n K G L v]) (Ws := [arJ cJ o ww, clP cI cZ cS O k g a d w0 c f z V T n K G L v]) X hZ (k_tieTS l D cI cZ cS cJ hl9 O k g a d w0 c f z V T n K G L v r x hr7 h1 h2 hw) (cwV 2 hts gL_tie_X6_tie rfl rfl rfl (by decide +kernel) ⟨Nat.le_of_ble_eq_true rfl, Nat.le_of_ble_eq_true rfl⟩) hK hP hD hS hA [1] rfl (by decide +kernel) 1 6 rfl rfl rfl hl.1 rfl (Nat.le_of_ble_eq_true rfl) dL_tie_5 ⟨Nat.le_of_ble_eq_true rfl, Nat.le_of_ble_eq_true rfl⟩ (fun H locs q9 ce hP hS h1 h2 h3 => ?_)
  refine vx_catch (own := RL) (name := xcS) hown [⟨0, 10, 13, 13⟩, ⟨0, 10, 17, 15⟩] ⟨0, 10, 21, 17⟩ [] (htab.trans rfl) (fun z9 hz9 => by rcases List.mem_cons.mp hz9 with rfl | hz9; exact Or.inr ⟨by decide, xcI, hts (.classLink RL 13 xcI) (by decide +kernel), hZ.1.2.2.2.1⟩; obtain rfl := List.mem_singleton.mp hz9; exact Or.inr ⟨by decide, xcA, hts (.classLink RL 15 xcA) (by decide +kernel), hZ.1.2.2.2.2⟩) (by decide) (by decide) (hts (.classLink RL 17 xcS) (by decide +kernel)) (va_Nw.use rfl hZ.1.2.1.2.2) h1 h2 h3 ?_
  refine lv_astore (lv' := [(4, .ref q9), (0, .ref (O 0)), (1, .int (nI r)), (2, .int x), (3, .ref o)]) hx hb dL_tie_21 hl (by decide) rfl (fun ls hl => ?_)
  refine lv_iconst (v := 3) hx hb dL_tie_23 (by decide) ?_
  refine W.widen (k := 1) (n := 6) (by omega) (by omega) ?_
  exact hend () 3 _ _ _ _ trivial rfl hP hD hS dL_tie_24

set_option maxHeartbeats 4000000 in
theorem h_cutN (l : Launch) (D : va_G) (cI cZ cS cJ : ClassId) (hl9 : l.stackTraces = false) (O k g a d : Nat → Nat) (w0 : Int32) (c : Nat → Nat → Nat) (f : Nat → Option Nat) (z : Nat) (V : Nat → Nat → Nat → Int32) (T : Nat → Int32) (n : Nat) (K G : Nat → Nat → Int32) (L : Nat → Int32) (v : Int32) (o : Nat) (ww : Int64) (r : Nat) (hz6 : z ≤ 6) (hf : ∀ i, i < 6 → f i = some (c i 0)) (hO : OK (V 0)) (hr7 : r < 7) (hw : wn5 (V 0) r = 0) : CH (U := Unit) l yL_cut wsL_cut ({ frames := 8, cells := 1, slots := 6, locals := 133 }) D (tyL cI cZ cS cJ) [.ref (O 0), .int (nI r), .ref o] (List.flatten [arJ cJ o ww, clP cI cZ cS O k g a d w0 c f z V T n K G L v]) (fun _ => True) (fun _ => some (.int 0)) (fun u => List.flatten [arJ cJ o (sm (ht (cutS (V 0) r)) 8 - (sm ((V 0) 6) 8)).toInt64, clP cI cZ cS O k g a d w0 (cN c z) (fN f z) (savZ z) (vput (savV V z) (mended (cutS (V 0) r))) T n K G L v]) 1 6 := by
  refine CH_int (cc := cL_cut) (maxL := 4) (rt := .int) (r := fun _ => 0) (by decide) rfl (Nat.le_of_ble_eq_true rfl) (fun _ _ => rfl) ?_
  intro p e s m below meth cd A ls Q X hK hP hD hS hA hl hZ htab hend
  have X : CallFix p m cd cL_cut 4 s ([.ref (O 0), .int (nI r), .ref o] : List Value).toArray wsL_cut RL := X
  obtain ⟨hx, hb, hml, hown, hts⟩ := id X
  have hl : lv_has ls 4 [(0, .ref (O 0)), (1, .int (nI r)), (2, .ref o)] := hl
  refine lv_aload_n hx hb dL_cut_0 rfl (lv_at hl 2 rfl) ?_
  refine lv_iconst (v := 0) hx hb dL_cut_1 (by decide) ?_
  refine lv_aload_n hx hb dL_cut_2 rfl (lv_at hl 0 rfl) ?_
  refine lv_iload_n hx hb dL_cut_3 rfl (lv_at hl 1 rfl) ?_
  refine kcallVJ (U := Unit) (As := [.int (nI r)]) (rest := [.int 0, .ref o]) (Wr := [arJ cJ o ww]) (Wc := [clP cI cZ cS O k g a d w0 c f z V T n K G L v]) (Wo := fun u => [clP cI cZ cS O k g a d w0 (cN c z) (fN f z) (savZ z) (vput (savV V z) (mended (cutS (V 0) r))) T n K G L v]) X (k_cut l D cI cZ cS cJ O k g a d w0 c f z V T n K G L v r hz6 hf hO hr7 hw) (cwV 1 hts gL_cut_X6_cut rfl rfl rfl (by decide +kernel) ⟨Nat.le_of_ble_eq_true rfl, Nat.le_of_ble_eq_true rfl⟩) hK hP hD hS hA 0 6 rfl rfl rfl hl.1 rfl (Nat.le_of_ble_eq_true rfl) dL_cut_4 ⟨Nat.le_of_ble_eq_true rfl, Nat.le_of_ble_eq_true rfl⟩ (fun u H locs hu hP hD hS => ?_)
  have hP : va_P D vwCl (List.flatten [arJ cJ o ww, clP cI cZ cS O k g a d w0 (cN c z) (fN f z) (savZ z) (vput (savV V z) (mended (cutS (V 0) r))) T n K G L v]) _ := hP
  have hD : va_D A (List.flatten [arJ cJ o ww, clP cI cZ cS O k g a d w0 (cN c z) (fN f z) (savZ z) (vput (savV V z) (mended (cutS (V 0) r))) T n K G L v]) := hD
  refine lv_i2l (v := (sm (ht (cutS (V 0) r)) 8 - (sm ((V 0) 6) 8)).toInt64) hx hb dL_cut_7 rfl ?_
  refine r_last (w := ww) (x := (sm (ht (cutS (V 0) r)) 8 - (sm ((V 0) 6) 8)).toInt64) (wn := List.flatten [arJ cJ o (sm (ht (cutS (V 0) r)) 8 - (sm ((V 0) 6) 8)).toInt64, clP cI cZ cS O k g a d w0 (cN c z) (fN f z) (savZ z) (vput (savV V z) (mended (cutS (V 0) r))) T n K G L v]) hx hb hK hP hD hS 0 3 rfl rfl rfl dL_cut_8 (fun H locs hP hD hS => ?_)
  refine lv_goto (tgt := 18) hx hb dL_cut_9 (by decide) ?_
  refine lv_iconst (v := 0) hx hb dL_cut_18 (by decide) ?_
  refine W.widen (k := 1) (n := 6) (by omega) (by omega) ?_
  exact hend u 0 _ _ _ _ trivial rfl hP hD hS dL_cut_19

set_option maxHeartbeats 4000000 in
theorem h_cutTI (l : Launch) (D : va_G) (cI cZ cS cJ : ClassId) (hl9 : l.stackTraces = false) (O k g a d : Nat → Nat) (w0 : Int32) (c : Nat → Nat → Nat) (f : Nat → Option Nat) (z : Nat) (V : Nat → Nat → Nat → Int32) (T : Nat → Int32) (n : Nat) (K G : Nat → Nat → Int32) (L : Nat → Int32) (v : Int32) (o : Nat) (ww : Int64) (x : Int32) (hT : ¬ isR x) : CH (U := Unit) l yL_cut wsL_cut ({ frames := 8, cells := 1, slots := 6, locals := 133 }) D (tyL cI cZ cS cJ) [.ref (O 0), .int x, .ref o] (List.flatten [arJ cJ o ww, clP cI cZ cS O k g a d w0 c f z V T n K G L v]) (fun _ => True) (fun _ => some (.int 1)) (fun u => List.flatten [arJ cJ o ww, clP cI cZ cS O k g a d w0 c f z V T n K G L v]) 1 6 := by
  refine CH_int (cc := cL_cut) (maxL := 4) (rt := .int) (r := fun _ => 1) (by decide) rfl (Nat.le_of_ble_eq_true rfl) (fun _ _ => rfl) ?_
  intro p e s m below meth cd A ls Q X hK hP hD hS hA hl hZ htab hend
  have X : CallFix p m cd cL_cut 4 s ([.ref (O 0), .int x, .ref o] : List Value).toArray wsL_cut RL := X
  obtain ⟨hx, hb, hml, hown, hts⟩ := id X
  have hl : lv_has ls 4 [(0, .ref (O 0)), (1, .int x), (2, .ref o)] := hl
  refine lv_aload_n hx hb dL_cut_0 rfl (lv_at hl 2 rfl) ?_
  refine lv_iconst (v := 0) hx hb dL_cut_1 (by decide) ?_
  refine lv_aload_n hx hb dL_cut_2 rfl (lv_at hl 0 rfl) ?_
  refine lv_iload_n hx hb dL_cut_3 rfl (lv_at hl 1 rfl) ?_
  refine kcallVT (As := [.int x]) (rest := [.int 0, .ref o]) (Wc := [clP cI cZ cS O k g a d w0 c f z V T n K G L v]) (Ws := [arJ cJ o ww, clP cI cZ cS O k g a d w0 c f z V T n K G L v]) X hZ (k_cutTI l D cI cZ cS cJ hl9 O k g a d w0 c f z V T n K G L v x hT) (cwV 1 hts gL_cut_X6_cut rfl rfl rfl (by decide +kernel) ⟨Nat.le_of_ble_eq_true rfl, Nat.le_of_ble_eq_true rfl⟩) hK hP hD hS hA [1] rfl (by decide +kernel) 1 6 rfl rfl rfl hl.1 rfl (Nat.le_of_ble_eq_true rfl) dL_cut_4 ⟨Nat.le_of_ble_eq_true rfl, Nat.le_of_ble_eq_true rfl⟩ (fun H locs q9 ce hP hS h1 h2 h3 => ?_)
  refine vx_catch (own := RL) (name := xcI) hown [] ⟨0, 9, 12, 13⟩ [⟨0, 9, 15, 17⟩] (htab.trans rfl) (fun z9 hz9 => absurd hz9 List.not_mem_nil) (by decide) (by decide) (hts (.classLink RL 13 xcI) (by decide +kernel)) (va_Nw.use rfl hZ.1.2.1.1) h1 h2 h3 ?_
  refine lv_astore_n (lv' := [(3, .ref q9), (0, .ref (O 0)), (1, .int x), (2, .ref o)]) hx hb dL_cut_12 rfl hl (by decide) rfl (fun ls hl => ?_)
  refine lv_iconst (v := 1) hx hb dL_cut_13 (by decide) ?_
  refine W.widen (k := 1) (n := 6) (by omega) (by omega) ?_
  exact hend () 1 _ _ _ _ trivial rfl hP hD hS dL_cut_14

set_option maxHeartbeats 4000000 in
theorem h_cutTS (l : Launch) (D : va_G) (cI cZ cS cJ : ClassId) (hl9 : l.stackTraces = false) (O k g a d : Nat → Nat) (w0 : Int32) (c : Nat → Nat → Nat) (f : Nat → Option Nat) (z : Nat) (V : Nat → Nat → Nat → Int32) (T : Nat → Int32) (n : Nat) (K G : Nat → Nat → Int32) (L : Nat → Int32) (v : Int32) (o : Nat) (ww : Int64) (r : Nat) (hr7 : r < 7) (hw : ¬ wn5 (V 0) r = 0) : CH (U := Unit) l yL_cut wsL_cut ({ frames := 8, cells := 1, slots := 6, locals := 133 }) D (tyL cI cZ cS cJ) [.ref (O 0), .int (nI r), .ref o] (List.flatten [arJ cJ o ww, clP cI cZ cS O k g a d w0 c f z V T n K G L v]) (fun _ => True) (fun _ => some (.int 2)) (fun u => List.flatten [arJ cJ o ww, clP cI cZ cS O k g a d w0 c f z V T n K G L v]) 1 6 := by
  refine CH_int (cc := cL_cut) (maxL := 4) (rt := .int) (r := fun _ => 2) (by decide) rfl (Nat.le_of_ble_eq_true rfl) (fun _ _ => rfl) ?_
  intro p e s m below meth cd A ls Q X hK hP hD hS hA hl hZ htab hend
  have X : CallFix p m cd cL_cut 4 s ([.ref (O 0), .int (nI r), .ref o] : List Value).toArray wsL_cut RL := X
  obtain ⟨hx, hb, hml, hown, hts⟩ := id X
  have hl : lv_has ls 4 [(0, .ref (O 0)), (1, .int (nI r)), (2, .ref o)] := hl
  refine lv_aload_n hx hb dL_cut_0 rfl (lv_at hl 2 rfl) ?_
  refine lv_iconst (v := 0) hx hb dL_cut_1 (by decide) ?_
  refine lv_aload_n hx hb dL_cut_2 rfl (lv_at hl 0 rfl) ?_
  refine lv_iload_n hx hb dL_cut_3 rfl (lv_at hl 1 rfl) ?_
  refine kcallVT (As := [.int (nI r)]) (rest := [.int 0, .ref o]) (Wc := [clP cI cZ cS O k g a d w0 c f z V T n K G L v]) (Ws := [arJ cJ o ww, clP cI cZ cS O k g a d w0 c f z V T n K G L v]) X hZ (k_cutTS l D cI cZ cS cJ hl9 O k g a d w0 c f z V T n K G L v r hr7 hw) (cwV 1 hts gL_cut_X6_cut rfl rfl rfl (by decide +kernel) ⟨Nat.le_of_ble_eq_true rfl, Nat.le_of_ble_eq_true rfl⟩) hK hP hD hS hA [1] rfl (by decide +kernel) 1 6 rfl rfl rfl hl.1 rfl (Nat.le_of_ble_eq_true rfl) dL_cut_4 ⟨Nat.le_of_ble_eq_true rfl, Nat.le_of_ble_eq_true rfl⟩ (fun H locs q9 ce hP hS h1 h2 h3 => ?_)
  refine vx_catch (own := RL) (name := xcS) hown [⟨0, 9, 12, 13⟩] ⟨0, 9, 15, 17⟩ [] (htab.trans rfl) (fun z9 hz9 => by obtain rfl := List.mem_singleton.mp hz9; exact Or.inr ⟨by decide, xcI, hts (.classLink RL 13 xcI) (by decide +kernel), hZ.1.2.2.2.1⟩) (by decide) (by decide) (hts (.classLink RL 17 xcS) (by decide +kernel)) (va_Nw.use rfl hZ.1.2.1.2.2) h1 h2 h3 ?_
  refine lv_astore_n (lv' := [(3, .ref q9), (0, .ref (O 0)), (1, .int (nI r)), (2, .ref o)]) hx hb dL_cut_15 rfl hl (by decide) rfl (fun ls hl => ?_)
  refine lv_iconst (v := 2) hx hb dL_cut_16 (by decide) ?_
  refine W.widen (k := 1) (n := 6) (by omega) (by omega) ?_
  exact hend () 2 _ _ _ _ trivial rfl hP hD hS dL_cut_17

set_option maxHeartbeats 4000000 in
theorem h_bearN (l : Launch) (D : va_G) (cI cZ cS cJ : ClassId) (hl9 : l.stackTraces = false) (O k g a d : Nat → Nat) (w0 : Int32) (c : Nat → Nat → Nat) (f : Nat → Option Nat) (z : Nat) (V : Nat → Nat → Nat → Int32) (T : Nat → Int32) (n : Nat) (K G : Nat → Nat → Int32) (L : Nat → Int32) (v : Int32) (o : Nat) (ww : Int64) (r : Nat) (x : Int32) (hz6 : z ≤ 6) (hf : ∀ i, i < 6 → f i = some (c i 0)) (hO : OK (V 0)) (hr7 : r < 7) (h1 : ¬ x < 0) (h2 : x ≤ 500) : CH (U := Unit) l yL_bear wsL_bear ({ frames := 8, cells := 1, slots := 6, locals := 127 }) D (tyL cI cZ cS cJ) [.ref (O 0), .int (nI r), .int x, .ref o] (List.flatten [arJ cJ o ww, clP cI cZ cS O k g a d w0 c f z V T n K G L v]) (fun _ => True) (fun _ => some (.int 0)) (fun u => List.flatten [arJ cJ o (((V 0) 5) r).toInt64, clP cI cZ cS O k g a d w0 (cN c z) (fN f z) (savZ z) (vput (savV V z) (beaS (V 0) r x)) T n K G L v]) 1 6 := by
  refine CH_int (cc := cL_bear) (maxL := 5) (rt := .int) (r := fun _ => 0) (by decide) rfl (Nat.le_of_ble_eq_true rfl) (fun _ _ => rfl) ?_
  intro p e s m below meth cd A ls Q X hK hP hD hS hA hl hZ htab hend
  have X : CallFix p m cd cL_bear 5 s ([.ref (O 0), .int (nI r), .int x, .ref o] : List Value).toArray wsL_bear RL := X
  obtain ⟨hx, hb, hml, hown, hts⟩ := id X
  have hl : lv_has ls 5 [(0, .ref (O 0)), (1, .int (nI r)), (2, .int x), (3, .ref o)] := hl
  refine lv_aload_n hx hb dL_bear_0 rfl (lv_at hl 3 rfl) ?_
  refine lv_iconst (v := 0) hx hb dL_bear_1 (by decide) ?_
  refine lv_aload_n hx hb dL_bear_2 rfl (lv_at hl 0 rfl) ?_
  refine lv_iload_n hx hb dL_bear_3 rfl (lv_at hl 1 rfl) ?_
  refine lv_iload_n hx hb dL_bear_4 rfl (lv_at hl 2 rfl) ?_
  refine kcallVJ (U := Unit) (As := [.int (nI r), .int x]) (rest := [.int 0, .ref o]) (Wr := [arJ cJ o ww]) (Wc := [clP cI cZ cS O k g a d w0 c f z V T n K G L v]) (Wo := fun u => [clP cI cZ cS O k g a d w0 (cN c z) (fN f z) (savZ z) (vput (savV V z) (beaS (V 0) r x)) T n K G L v]) X (k_bear l D cI cZ cS cJ O k g a d w0 c f z V T n K G L v r x hz6 hf hO hr7 h1 h2) (cwV 2 hts gL_bear_X6_bear rfl rfl rfl (by decide +kernel) ⟨Nat.le_of_ble_eq_true rfl, Nat.le_of_ble_eq_true rfl⟩) hK hP hD hS hA 0 6 rfl rfl rfl hl.1 rfl (Nat.le_of_ble_eq_true rfl) dL_bear_5 ⟨Nat.le_of_ble_eq_true rfl, Nat.le_of_ble_eq_true rfl⟩ (fun u H locs hu hP hD hS => ?_)
  have hP : va_P D vwCl (List.flatten [arJ cJ o ww, clP cI cZ cS O k g a d w0 (cN c z) (fN f z) (savZ z) (vput (savV V z) (beaS (V 0) r x)) T n K G L v]) _ := hP
  have hD : va_D A (List.flatten [arJ cJ o ww, clP cI cZ cS O k g a d w0 (cN c z) (fN f z) (savZ z) (vput (savV V z) (beaS (V 0) r x)) T n K G L v]) := hD
  refine lv_i2l (v := (((V 0) 5) r).toInt64) hx hb dL_bear_8 rfl ?_
  refine r_last (w := ww) (x := (((V 0) 5) r).toInt64) (wn := List.flatten [arJ cJ o (((V 0) 5) r).toInt64, clP cI cZ cS O k g a d w0 (cN c z) (fN f z) (savZ z) (vput (savV V z) (beaS (V 0) r x)) T n K G L v]) hx hb hK hP hD hS 0 3 rfl rfl rfl dL_bear_9 (fun H locs hP hD hS => ?_)
  refine lv_goto (tgt := 21) hx hb dL_bear_10 (by decide) ?_
  refine lv_iconst (v := 0) hx hb dL_bear_21 (by decide) ?_
  refine W.widen (k := 1) (n := 6) (by omega) (by omega) ?_
  exact hend u 0 _ _ _ _ trivial rfl hP hD hS dL_bear_22

set_option maxHeartbeats 4000000 in
theorem h_bearTI (l : Launch) (D : va_G) (cI cZ cS cJ : ClassId) (hl9 : l.stackTraces = false) (O k g a d : Nat → Nat) (w0 : Int32) (c : Nat → Nat → Nat) (f : Nat → Option Nat) (z : Nat) (V : Nat → Nat → Nat → Int32) (T : Nat → Int32) (n : Nat) (K G : Nat → Nat → Int32) (L : Nat → Int32) (v : Int32) (o : Nat) (ww : Int64) (x : Int32) (y : Int32) (hT : ¬ isR x) : CH (U := Unit) l yL_bear wsL_bear ({ frames := 8, cells := 1, slots := 6, locals := 127 }) D (tyL cI cZ cS cJ) [.ref (O 0), .int x, .int y, .ref o] (List.flatten [arJ cJ o ww, clP cI cZ cS O k g a d w0 c f z V T n K G L v]) (fun _ => True) (fun _ => some (.int 1)) (fun u => List.flatten [arJ cJ o ww, clP cI cZ cS O k g a d w0 c f z V T n K G L v]) 1 6 := by
  refine CH_int (cc := cL_bear) (maxL := 5) (rt := .int) (r := fun _ => 1) (by decide) rfl (Nat.le_of_ble_eq_true rfl) (fun _ _ => rfl) ?_
  intro p e s m below meth cd A ls Q X hK hP hD hS hA hl hZ htab hend
  have X : CallFix p m cd cL_bear 5 s ([.ref (O 0), .int x, .int y, .ref o] : List Value).toArray wsL_bear RL := X
  obtain ⟨hx, hb, hml, hown, hts⟩ := id X
  have hl : lv_has ls 5 [(0, .ref (O 0)), (1, .int x), (2, .int y), (3, .ref o)] := hl
  refine lv_aload_n hx hb dL_bear_0 rfl (lv_at hl 3 rfl) ?_
  refine lv_iconst (v := 0) hx hb dL_bear_1 (by decide) ?_
  refine lv_aload_n hx hb dL_bear_2 rfl (lv_at hl 0 rfl) ?_
  refine lv_iload_n hx hb dL_bear_3 rfl (lv_at hl 1 rfl) ?_
  refine lv_iload_n hx hb dL_bear_4 rfl (lv_at hl 2 rfl) ?_
  refine kcallVT (As := [.int x, .int y]) (rest := [.int 0, .ref o]) (Wc := [clP cI cZ cS O k g a d w0 c f z V T n K G L v]) (Ws := [arJ cJ o ww, clP cI cZ cS O k g a d w0 c f z V T n K G L v]) X hZ (k_bearTI l D cI cZ cS cJ hl9 O k g a d w0 c f z V T n K G L v x y hT) (cwV 2 hts gL_bear_X6_bear rfl rfl rfl (by decide +kernel) ⟨Nat.le_of_ble_eq_true rfl, Nat.le_of_ble_eq_true rfl⟩) hK hP hD hS hA [1] rfl (by decide +kernel) 1 6 rfl rfl rfl hl.1 rfl (Nat.le_of_ble_eq_true rfl) dL_bear_5 ⟨Nat.le_of_ble_eq_true rfl, Nat.le_of_ble_eq_true rfl⟩ (fun H locs q9 ce hP hS h1 h2 h3 => ?_)
  refine vx_catch (own := RL) (name := xcI) hown [] ⟨0, 10, 13, 13⟩ [⟨0, 10, 17, 15⟩] (htab.trans rfl) (fun z9 hz9 => absurd hz9 List.not_mem_nil) (by decide) (by decide) (hts (.classLink RL 13 xcI) (by decide +kernel)) (va_Nw.use rfl hZ.1.2.1.1) h1 h2 h3 ?_
  refine lv_astore (lv' := [(4, .ref q9), (0, .ref (O 0)), (1, .int x), (2, .int y), (3, .ref o)]) hx hb dL_bear_13 hl (by decide) rfl (fun ls hl => ?_)
  refine lv_iconst (v := 1) hx hb dL_bear_15 (by decide) ?_
  refine W.widen (k := 1) (n := 6) (by omega) (by omega) ?_
  exact hend () 1 _ _ _ _ trivial rfl hP hD hS dL_bear_16

set_option maxHeartbeats 4000000 in
theorem h_bearTA (l : Launch) (D : va_G) (cI cZ cS cJ : ClassId) (hl9 : l.stackTraces = false) (O k g a d : Nat → Nat) (w0 : Int32) (c : Nat → Nat → Nat) (f : Nat → Option Nat) (z : Nat) (V : Nat → Nat → Nat → Int32) (T : Nat → Int32) (n : Nat) (K G : Nat → Nat → Int32) (L : Nat → Int32) (v : Int32) (o : Nat) (ww : Int64) (r : Nat) (x : Int32) (hr7 : r < 7) (hT : ¬ inR x 0 500) : CH (U := Unit) l yL_bear wsL_bear ({ frames := 8, cells := 1, slots := 6, locals := 127 }) D (tyL cI cZ cS cJ) [.ref (O 0), .int (nI r), .int x, .ref o] (List.flatten [arJ cJ o ww, clP cI cZ cS O k g a d w0 c f z V T n K G L v]) (fun _ => True) (fun _ => some (.int 2)) (fun u => List.flatten [arJ cJ o ww, clP cI cZ cS O k g a d w0 c f z V T n K G L v]) 1 6 := by
  refine CH_int (cc := cL_bear) (maxL := 5) (rt := .int) (r := fun _ => 2) (by decide) rfl (Nat.le_of_ble_eq_true rfl) (fun _ _ => rfl) ?_
  intro p e s m below meth cd A ls Q X hK hP hD hS hA hl hZ htab hend
  have X : CallFix p m cd cL_bear 5 s ([.ref (O 0), .int (nI r), .int x, .ref o] : List Value).toArray wsL_bear RL := X
  obtain ⟨hx, hb, hml, hown, hts⟩ := id X
  have hl : lv_has ls 5 [(0, .ref (O 0)), (1, .int (nI r)), (2, .int x), (3, .ref o)] := hl
  refine lv_aload_n hx hb dL_bear_0 rfl (lv_at hl 3 rfl) ?_
  refine lv_iconst (v := 0) hx hb dL_bear_1 (by decide) ?_
  refine lv_aload_n hx hb dL_bear_2 rfl (lv_at hl 0 rfl) ?_
  refine lv_iload_n hx hb dL_bear_3 rfl (lv_at hl 1 rfl) ?_
  refine lv_iload_n hx hb dL_bear_4 rfl (lv_at hl 2 rfl) ?_
  refine kcallVT (As := [.int (nI r), .int x]) (rest := [.int 0, .ref o]) (Wc := [clP cI cZ cS O k g a d w0 c f z V T n K G L v]) (Ws := [arJ cJ o ww, clP cI cZ cS O k g a d w0 c f z V T n K G L v]) X hZ (k_bearTA l D cI cZ cS cJ hl9 O k g a d w0 c f z V T n K G L v r x hr7 hT) (cwV 2 hts gL_bear_X6_bear rfl rfl rfl (by decide +kernel) ⟨Nat.le_of_ble_eq_true rfl, Nat.le_of_ble_eq_true rfl⟩) hK hP hD hS hA [1] rfl (by decide +kernel) 1 6 rfl rfl rfl hl.1 rfl (Nat.le_of_ble_eq_true rfl) dL_bear_5 ⟨Nat.le_of_ble_eq_true rfl, Nat.le_of_ble_eq_true rfl⟩ (fun H locs q9 ce hP hS h1 h2 h3 => ?_)
  refine vx_catch (own := RL) (name := xcA) hown [⟨0, 10, 13, 13⟩] ⟨0, 10, 17, 15⟩ [] (htab.trans rfl) (fun z9 hz9 => by obtain rfl := List.mem_singleton.mp hz9; exact Or.inr ⟨by decide, xcI, hts (.classLink RL 13 xcI) (by decide +kernel), hZ.1.2.2.1⟩) (by decide) (by decide) (hts (.classLink RL 15 xcA) (by decide +kernel)) (va_Nw.use rfl hZ.1.2.1.2.1) h1 h2 h3 ?_
  refine lv_astore (lv' := [(4, .ref q9), (0, .ref (O 0)), (1, .int (nI r)), (2, .int x), (3, .ref o)]) hx hb dL_bear_17 hl (by decide) rfl (fun ls hl => ?_)
  refine lv_iconst (v := 2) hx hb dL_bear_19 (by decide) ?_
  refine W.widen (k := 1) (n := 6) (by omega) (by omega) ?_
  exact hend () 2 _ _ _ _ trivial rfl hP hD hS dL_bear_20

set_option maxHeartbeats 4000000 in
theorem h_tuneN (l : Launch) (D : va_G) (cI cZ cS cJ : ClassId) (hl9 : l.stackTraces = false) (O k g a d : Nat → Nat) (w0 : Int32) (c : Nat → Nat → Nat) (f : Nat → Option Nat) (z : Nat) (V : Nat → Nat → Nat → Int32) (T : Nat → Int32) (n : Nat) (K G : Nat → Nat → Int32) (L : Nat → Int32) (v : Int32) (o : Nat) (ww : Int64) (b : Nat) (x : Int32) (hz6 : z ≤ 6) (hf : ∀ i, i < 6 → f i = some (c i 0)) (hO : OK (V 0)) (hb8 : b < 8) (h1 : ¬ x < (-20)) (h2 : x ≤ 20) : CH (U := Unit) l yL_tune wsL_tune ({ frames := 8, cells := 1, slots := 6, locals := 127 }) D (tyL cI cZ cS cJ) [.ref (O 0), .int (nI b), .int x, .ref o] (List.flatten [arJ cJ o ww, clP cI cZ cS O k g a d w0 c f z V T n K G L v]) (fun _ => True) (fun _ => some (.int 0)) (fun u => List.flatten [arJ cJ o (tel (V 0) b).toInt64, clP cI cZ cS O k g a d w0 (cN c z) (fN f z) (savZ z) (vput (savV V z) (tunS (V 0) b x)) T n K G L v]) 1 6 := by
  refine CH_int (cc := cL_tune) (maxL := 5) (rt := .int) (r := fun _ => 0) (by decide) rfl (Nat.le_of_ble_eq_true rfl) (fun _ _ => rfl) ?_
  intro p e s m below meth cd A ls Q X hK hP hD hS hA hl hZ htab hend
  have X : CallFix p m cd cL_tune 5 s ([.ref (O 0), .int (nI b), .int x, .ref o] : List Value).toArray wsL_tune RL := X
  obtain ⟨hx, hb, hml, hown, hts⟩ := id X
  have hl : lv_has ls 5 [(0, .ref (O 0)), (1, .int (nI b)), (2, .int x), (3, .ref o)] := hl
  refine lv_aload_n hx hb dL_tune_0 rfl (lv_at hl 3 rfl) ?_
  refine lv_iconst (v := 0) hx hb dL_tune_1 (by decide) ?_
  refine lv_aload_n hx hb dL_tune_2 rfl (lv_at hl 0 rfl) ?_
  refine lv_iload_n hx hb dL_tune_3 rfl (lv_at hl 1 rfl) ?_
  refine lv_iload_n hx hb dL_tune_4 rfl (lv_at hl 2 rfl) ?_
  refine kcallVJ (U := Unit) (As := [.int (nI b), .int x]) (rest := [.int 0, .ref o]) (Wr := [arJ cJ o ww]) (Wc := [clP cI cZ cS O k g a d w0 c f z V T n K G L v]) (Wo := fun u => [clP cI cZ cS O k g a d w0 (cN c z) (fN f z) (savZ z) (vput (savV V z) (tunS (V 0) b x)) T n K G L v]) X (k_tune l D cI cZ cS cJ O k g a d w0 c f z V T n K G L v b x hz6 hf hO hb8 h1 h2) (cwV 2 hts gL_tune_X6_tune rfl rfl rfl (by decide +kernel) ⟨Nat.le_of_ble_eq_true rfl, Nat.le_of_ble_eq_true rfl⟩) hK hP hD hS hA 0 6 rfl rfl rfl hl.1 rfl (Nat.le_of_ble_eq_true rfl) dL_tune_5 ⟨Nat.le_of_ble_eq_true rfl, Nat.le_of_ble_eq_true rfl⟩ (fun u H locs hu hP hD hS => ?_)
  have hP : va_P D vwCl (List.flatten [arJ cJ o ww, clP cI cZ cS O k g a d w0 (cN c z) (fN f z) (savZ z) (vput (savV V z) (tunS (V 0) b x)) T n K G L v]) _ := hP
  have hD : va_D A (List.flatten [arJ cJ o ww, clP cI cZ cS O k g a d w0 (cN c z) (fN f z) (savZ z) (vput (savV V z) (tunS (V 0) b x)) T n K G L v]) := hD
  refine lv_i2l (v := (tel (V 0) b).toInt64) hx hb dL_tune_8 rfl ?_
  refine r_last (w := ww) (x := (tel (V 0) b).toInt64) (wn := List.flatten [arJ cJ o (tel (V 0) b).toInt64, clP cI cZ cS O k g a d w0 (cN c z) (fN f z) (savZ z) (vput (savV V z) (tunS (V 0) b x)) T n K G L v]) hx hb hK hP hD hS 0 3 rfl rfl rfl dL_tune_9 (fun H locs hP hD hS => ?_)
  refine lv_goto (tgt := 21) hx hb dL_tune_10 (by decide) ?_
  refine lv_iconst (v := 0) hx hb dL_tune_21 (by decide) ?_
  refine W.widen (k := 1) (n := 6) (by omega) (by omega) ?_
  exact hend u 0 _ _ _ _ trivial rfl hP hD hS dL_tune_22

set_option maxHeartbeats 4000000 in
theorem h_tuneTI (l : Launch) (D : va_G) (cI cZ cS cJ : ClassId) (hl9 : l.stackTraces = false) (O k g a d : Nat → Nat) (w0 : Int32) (c : Nat → Nat → Nat) (f : Nat → Option Nat) (z : Nat) (V : Nat → Nat → Nat → Int32) (T : Nat → Int32) (n : Nat) (K G : Nat → Nat → Int32) (L : Nat → Int32) (v : Int32) (o : Nat) (ww : Int64) (x : Int32) (y : Int32) (hT : ¬ isB x) : CH (U := Unit) l yL_tune wsL_tune ({ frames := 8, cells := 1, slots := 6, locals := 127 }) D (tyL cI cZ cS cJ) [.ref (O 0), .int x, .int y, .ref o] (List.flatten [arJ cJ o ww, clP cI cZ cS O k g a d w0 c f z V T n K G L v]) (fun _ => True) (fun _ => some (.int 1)) (fun u => List.flatten [arJ cJ o ww, clP cI cZ cS O k g a d w0 c f z V T n K G L v]) 1 6 := by
  refine CH_int (cc := cL_tune) (maxL := 5) (rt := .int) (r := fun _ => 1) (by decide) rfl (Nat.le_of_ble_eq_true rfl) (fun _ _ => rfl) ?_
  intro p e s m below meth cd A ls Q X hK hP hD hS hA hl hZ htab hend
  have X : CallFix p m cd cL_tune 5 s ([.ref (O 0), .int x, .int y, .ref o] : List Value).toArray wsL_tune RL := X
  obtain ⟨hx, hb, hml, hown, hts⟩ := id X
  have hl : lv_has ls 5 [(0, .ref (O 0)), (1, .int x), (2, .int y), (3, .ref o)] := hl
  refine lv_aload_n hx hb dL_tune_0 rfl (lv_at hl 3 rfl) ?_
  refine lv_iconst (v := 0) hx hb dL_tune_1 (by decide) ?_
  refine lv_aload_n hx hb dL_tune_2 rfl (lv_at hl 0 rfl) ?_
  refine lv_iload_n hx hb dL_tune_3 rfl (lv_at hl 1 rfl) ?_
  refine lv_iload_n hx hb dL_tune_4 rfl (lv_at hl 2 rfl) ?_
  refine kcallVT (As := [.int x, .int y]) (rest := [.int 0, .ref o]) (Wc := [clP cI cZ cS O k g a d w0 c f z V T n K G L v]) (Ws := [arJ cJ o ww, clP cI cZ cS O k g a d w0 c f z V T n K G L v]) X hZ (k_tuneTI l D cI cZ cS cJ hl9 O k g a d w0 c f z V T n K G L v x y hT) (cwV 2 hts gL_tune_X6_tune rfl rfl rfl (by decide +kernel) ⟨Nat.le_of_ble_eq_true rfl, Nat.le_of_ble_eq_true rfl⟩) hK hP hD hS hA [1] rfl (by decide +kernel) 1 6 rfl rfl rfl hl.1 rfl (Nat.le_of_ble_eq_true rfl) dL_tune_5 ⟨Nat.le_of_ble_eq_true rfl, Nat.le_of_ble_eq_true rfl⟩ (fun H locs q9 ce hP hS h1 h2 h3 => ?_)
  refine vx_catch (own := RL) (name := xcI) hown [] ⟨0, 10, 13, 13⟩ [⟨0, 10, 17, 15⟩] (htab.trans rfl) (fun z9 hz9 => absurd hz9 List.not_mem_nil) (by decide) (by decide) (hts (.classLink RL 13 xcI) (by decide +kernel)) (va_Nw.use rfl hZ.1.2.1.1) h1 h2 h3 ?_
  refine lv_astore (lv' := [(4, .ref q9), (0, .ref (O 0)), (1, .int x), (2, .int y), (3, .ref o)]) hx hb dL_tune_13 hl (by decide) rfl (fun ls hl => ?_)
  refine lv_iconst (v := 1) hx hb dL_tune_15 (by decide) ?_
  refine W.widen (k := 1) (n := 6) (by omega) (by omega) ?_
  exact hend () 1 _ _ _ _ trivial rfl hP hD hS dL_tune_16

set_option maxHeartbeats 4000000 in
theorem h_tuneTA (l : Launch) (D : va_G) (cI cZ cS cJ : ClassId) (hl9 : l.stackTraces = false) (O k g a d : Nat → Nat) (w0 : Int32) (c : Nat → Nat → Nat) (f : Nat → Option Nat) (z : Nat) (V : Nat → Nat → Nat → Int32) (T : Nat → Int32) (n : Nat) (K G : Nat → Nat → Int32) (L : Nat → Int32) (v : Int32) (o : Nat) (ww : Int64) (b : Nat) (x : Int32) (hb8 : b < 8) (hT : ¬ inR x (-20) 20) : CH (U := Unit) l yL_tune wsL_tune ({ frames := 8, cells := 1, slots := 6, locals := 127 }) D (tyL cI cZ cS cJ) [.ref (O 0), .int (nI b), .int x, .ref o] (List.flatten [arJ cJ o ww, clP cI cZ cS O k g a d w0 c f z V T n K G L v]) (fun _ => True) (fun _ => some (.int 2)) (fun u => List.flatten [arJ cJ o ww, clP cI cZ cS O k g a d w0 c f z V T n K G L v]) 1 6 := by
  refine CH_int (cc := cL_tune) (maxL := 5) (rt := .int) (r := fun _ => 2) (by decide) rfl (Nat.le_of_ble_eq_true rfl) (fun _ _ => rfl) ?_
  intro p e s m below meth cd A ls Q X hK hP hD hS hA hl hZ htab hend
  have X : CallFix p m cd cL_tune 5 s ([.ref (O 0), .int (nI b), .int x, .ref o] : List Value).toArray wsL_tune RL := X
  obtain ⟨hx, hb, hml, hown, hts⟩ := id X
  have hl : lv_has ls 5 [(0, .ref (O 0)), (1, .int (nI b)), (2, .int x), (3, .ref o)] := hl
  refine lv_aload_n hx hb dL_tune_0 rfl (lv_at hl 3 rfl) ?_
  refine lv_iconst (v := 0) hx hb dL_tune_1 (by decide) ?_
  refine lv_aload_n hx hb dL_tune_2 rfl (lv_at hl 0 rfl) ?_
  refine lv_iload_n hx hb dL_tune_3 rfl (lv_at hl 1 rfl) ?_
  refine lv_iload_n hx hb dL_tune_4 rfl (lv_at hl 2 rfl) ?_
  refine kcallVT (As := [.int (nI b), .int x]) (rest := [.int 0, .ref o]) (Wc := [clP cI cZ cS O k g a d w0 c f z V T n K G L v]) (Ws := [arJ cJ o ww, clP cI cZ cS O k g a d w0 c f z V T n K G L v]) X hZ (k_tuneTA l D cI cZ cS cJ hl9 O k g a d w0 c f z V T n K G L v b x hb8 hT) (cwV 2 hts gL_tune_X6_tune rfl rfl rfl (by decide +kernel) ⟨Nat.le_of_ble_eq_true rfl, Nat.le_of_ble_eq_true rfl⟩) hK hP hD hS hA [1] rfl (by decide +kernel) 1 6 rfl rfl rfl hl.1 rfl (Nat.le_of_ble_eq_true rfl) dL_tune_5 ⟨Nat.le_of_ble_eq_true rfl, Nat.le_of_ble_eq_true rfl⟩ (fun H locs q9 ce hP hS h1 h2 h3 => ?_)
  refine vx_catch (own := RL) (name := xcA) hown [⟨0, 10, 13, 13⟩] ⟨0, 10, 17, 15⟩ [] (htab.trans rfl) (fun z9 hz9 => by obtain rfl := List.mem_singleton.mp hz9; exact Or.inr ⟨by decide, xcI, hts (.classLink RL 13 xcI) (by decide +kernel), hZ.1.2.2.1⟩) (by decide) (by decide) (hts (.classLink RL 15 xcA) (by decide +kernel)) (va_Nw.use rfl hZ.1.2.1.2.1) h1 h2 h3 ?_
  refine lv_astore (lv' := [(4, .ref q9), (0, .ref (O 0)), (1, .int (nI b)), (2, .int x), (3, .ref o)]) hx hb dL_tune_17 hl (by decide) rfl (fun ls hl => ?_)
  refine lv_iconst (v := 2) hx hb dL_tune_19 (by decide) ?_
  refine W.widen (k := 1) (n := 6) (by omega) (by omega) ?_
  exact hend () 2 _ _ _ _ trivial rfl hP hD hS dL_tune_20

set_option maxHeartbeats 4000000 in
theorem h_noteN (l : Launch) (D : va_G) (cI cZ cS cJ : ClassId) (hl9 : l.stackTraces = false) (O k g a d : Nat → Nat) (w0 : Int32) (c : Nat → Nat → Nat) (f : Nat → Option Nat) (z : Nat) (V : Nat → Nat → Nat → Int32) (T : Nat → Int32) (n : Nat) (K G : Nat → Nat → Int32) (L : Nat → Int32) (v : Int32) (o : Nat) (ww : Int64) (b : Nat) (hz6 : z ≤ 6) (hf : ∀ i, i < 6 → f i = some (c i 0)) (hO : OK (V 0)) (hb8 : b < 8) : CH (U := Unit) l yL_note wsL_note ({ frames := 8, cells := 1, slots := 6, locals := 123 }) D (tyL cI cZ cS cJ) [.ref (O 0), .int (nI b), .ref o] (List.flatten [arJ cJ o ww, clP cI cZ cS O k g a d w0 c f z V T n K G L v]) (fun _ => True) (fun _ => some (.int 0)) (fun u => List.flatten [arJ cJ o (tel (V 0) b).toInt64, clP cI cZ cS O k g a d w0 (cN c z) (fN f z) (savZ z) (vput (savV V z) (notS (V 0) (cy (V 0)) b)) T n K G L v]) 1 6 := by
  refine CH_int (cc := cL_note) (maxL := 4) (rt := .int) (r := fun _ => 0) (by decide) rfl (Nat.le_of_ble_eq_true rfl) (fun _ _ => rfl) ?_
  intro p e s m below meth cd A ls Q X hK hP hD hS hA hl hZ htab hend
  have X : CallFix p m cd cL_note 4 s ([.ref (O 0), .int (nI b), .ref o] : List Value).toArray wsL_note RL := X
  obtain ⟨hx, hb, hml, hown, hts⟩ := id X
  have hl : lv_has ls 4 [(0, .ref (O 0)), (1, .int (nI b)), (2, .ref o)] := hl
  refine lv_aload_n hx hb dL_note_0 rfl (lv_at hl 2 rfl) ?_
  refine lv_iconst (v := 0) hx hb dL_note_1 (by decide) ?_
  refine lv_aload_n hx hb dL_note_2 rfl (lv_at hl 0 rfl) ?_
  refine lv_iload_n hx hb dL_note_3 rfl (lv_at hl 1 rfl) ?_
  refine kcallVJ (U := Unit) (As := [.int (nI b)]) (rest := [.int 0, .ref o]) (Wr := [arJ cJ o ww]) (Wc := [clP cI cZ cS O k g a d w0 c f z V T n K G L v]) (Wo := fun u => [clP cI cZ cS O k g a d w0 (cN c z) (fN f z) (savZ z) (vput (savV V z) (notS (V 0) (cy (V 0)) b)) T n K G L v]) X (k_note l D cI cZ cS cJ O k g a d w0 c f z V T n K G L v b hz6 hf hO hb8) (cwV 1 hts gL_note_X6_note rfl rfl rfl (by decide +kernel) ⟨Nat.le_of_ble_eq_true rfl, Nat.le_of_ble_eq_true rfl⟩) hK hP hD hS hA 0 6 rfl rfl rfl hl.1 rfl (Nat.le_of_ble_eq_true rfl) dL_note_4 ⟨Nat.le_of_ble_eq_true rfl, Nat.le_of_ble_eq_true rfl⟩ (fun u H locs hu hP hD hS => ?_)
  have hP : va_P D vwCl (List.flatten [arJ cJ o ww, clP cI cZ cS O k g a d w0 (cN c z) (fN f z) (savZ z) (vput (savV V z) (notS (V 0) (cy (V 0)) b)) T n K G L v]) _ := hP
  have hD : va_D A (List.flatten [arJ cJ o ww, clP cI cZ cS O k g a d w0 (cN c z) (fN f z) (savZ z) (vput (savV V z) (notS (V 0) (cy (V 0)) b)) T n K G L v]) := hD
  refine lv_i2l (v := (tel (V 0) b).toInt64) hx hb dL_note_7 rfl ?_
  refine r_last (w := ww) (x := (tel (V 0) b).toInt64) (wn := List.flatten [arJ cJ o (tel (V 0) b).toInt64, clP cI cZ cS O k g a d w0 (cN c z) (fN f z) (savZ z) (vput (savV V z) (notS (V 0) (cy (V 0)) b)) T n K G L v]) hx hb hK hP hD hS 0 3 rfl rfl rfl dL_note_8 (fun H locs hP hD hS => ?_)
  refine lv_goto (tgt := 15) hx hb dL_note_9 (by decide) ?_
  refine lv_iconst (v := 0) hx hb dL_note_15 (by decide) ?_
  refine W.widen (k := 1) (n := 6) (by omega) (by omega) ?_
  exact hend u 0 _ _ _ _ trivial rfl hP hD hS dL_note_16

set_option maxHeartbeats 4000000 in
theorem h_noteTI (l : Launch) (D : va_G) (cI cZ cS cJ : ClassId) (hl9 : l.stackTraces = false) (O k g a d : Nat → Nat) (w0 : Int32) (c : Nat → Nat → Nat) (f : Nat → Option Nat) (z : Nat) (V : Nat → Nat → Nat → Int32) (T : Nat → Int32) (n : Nat) (K G : Nat → Nat → Int32) (L : Nat → Int32) (v : Int32) (o : Nat) (ww : Int64) (x : Int32) (hT : ¬ isB x) : CH (U := Unit) l yL_note wsL_note ({ frames := 8, cells := 1, slots := 6, locals := 123 }) D (tyL cI cZ cS cJ) [.ref (O 0), .int x, .ref o] (List.flatten [arJ cJ o ww, clP cI cZ cS O k g a d w0 c f z V T n K G L v]) (fun _ => True) (fun _ => some (.int 1)) (fun u => List.flatten [arJ cJ o ww, clP cI cZ cS O k g a d w0 c f z V T n K G L v]) 1 6 := by
  refine CH_int (cc := cL_note) (maxL := 4) (rt := .int) (r := fun _ => 1) (by decide) rfl (Nat.le_of_ble_eq_true rfl) (fun _ _ => rfl) ?_
  intro p e s m below meth cd A ls Q X hK hP hD hS hA hl hZ htab hend
  have X : CallFix p m cd cL_note 4 s ([.ref (O 0), .int x, .ref o] : List Value).toArray wsL_note RL := X
  obtain ⟨hx, hb, hml, hown, hts⟩ := id X
  have hl : lv_has ls 4 [(0, .ref (O 0)), (1, .int x), (2, .ref o)] := hl
  refine lv_aload_n hx hb dL_note_0 rfl (lv_at hl 2 rfl) ?_
  refine lv_iconst (v := 0) hx hb dL_note_1 (by decide) ?_
  refine lv_aload_n hx hb dL_note_2 rfl (lv_at hl 0 rfl) ?_
  refine lv_iload_n hx hb dL_note_3 rfl (lv_at hl 1 rfl) ?_
  refine kcallVT (As := [.int x]) (rest := [.int 0, .ref o]) (Wc := [clP cI cZ cS O k g a d w0 c f z V T n K G L v]) (Ws := [arJ cJ o ww, clP cI cZ cS O k g a d w0 c f z V T n K G L v]) X hZ (k_noteTI l D cI cZ cS cJ hl9 O k g a d w0 c f z V T n K G L v x hT) (cwV 1 hts gL_note_X6_note rfl rfl rfl (by decide +kernel) ⟨Nat.le_of_ble_eq_true rfl, Nat.le_of_ble_eq_true rfl⟩) hK hP hD hS hA [1] rfl (by decide +kernel) 1 6 rfl rfl rfl hl.1 rfl (Nat.le_of_ble_eq_true rfl) dL_note_4 ⟨Nat.le_of_ble_eq_true rfl, Nat.le_of_ble_eq_true rfl⟩ (fun H locs q9 ce hP hS h1 h2 h3 => ?_)
  refine vx_catch (own := RL) (name := xcI) hown [] ⟨0, 9, 12, 13⟩ [] (htab.trans rfl) (fun z9 hz9 => absurd hz9 List.not_mem_nil) (by decide) (by decide) (hts (.classLink RL 13 xcI) (by decide +kernel)) (va_Nw.use rfl hZ.1.2.1.1) h1 h2 h3 ?_
  refine lv_astore_n (lv' := [(3, .ref q9), (0, .ref (O 0)), (1, .int x), (2, .ref o)]) hx hb dL_note_12 rfl hl (by decide) rfl (fun ls hl => ?_)
  refine lv_iconst (v := 1) hx hb dL_note_13 (by decide) ?_
  refine W.widen (k := 1) (n := 6) (by omega) (by omega) ?_
  exact hend () 1 _ _ _ _ trivial rfl hP hD hS dL_note_14

set_option maxHeartbeats 4000000 in
theorem h_passN (l : Launch) (D : va_G) (cI cZ cS cJ : ClassId) (hl9 : l.stackTraces = false) (O k g a d : Nat → Nat) (w0 : Int32) (c : Nat → Nat → Nat) (f : Nat → Option Nat) (z : Nat) (V : Nat → Nat → Nat → Int32) (T : Nat → Int32) (n : Nat) (K G : Nat → Nat → Int32) (L : Nat → Int32) (v : Int32) (o : Nat) (ww : Int64) (nh : Nat) (hz6 : z ≤ 6) (hf : ∀ i, i < 6 → f i = some (c i 0)) (hO : OK (V 0)) (h1 : ¬ nI nh < 1) (h2 : nI nh ≤ 99) (hn : nh < 1000) : CH (U := Unit) l yL_pass wsL_pass ({ frames := 8, cells := 1, slots := 6, locals := 155 }) D (tyL cI cZ cS cJ) [.ref (O 0), .int (nI nh), .ref o] (List.flatten [arJ cJ o ww, clP cI cZ cS O k g a d w0 c f z V T n K G L v]) (fun _ => True) (fun _ => some (.int 0)) (fun u => List.flatten [arJ cJ o ((hrs (V 0) nh) 12 4 - ((V 0) 12 4)).toInt64, clP cI cZ cS O k g a d w0 (cN c z) (fN f z) (savZ z) (vput (savV V z) (hrs (V 0) nh)) T n K G L v]) 1 6 := by
  refine CH_int (cc := cL_pass) (maxL := 4) (rt := .int) (r := fun _ => 0) (by decide) rfl (Nat.le_of_ble_eq_true rfl) (fun _ _ => rfl) ?_
  intro p e s m below meth cd A ls Q X hK hP hD hS hA hl hZ htab hend
  have X : CallFix p m cd cL_pass 4 s ([.ref (O 0), .int (nI nh), .ref o] : List Value).toArray wsL_pass RL := X
  obtain ⟨hx, hb, hml, hown, hts⟩ := id X
  have hl : lv_has ls 4 [(0, .ref (O 0)), (1, .int (nI nh)), (2, .ref o)] := hl
  refine lv_aload_n hx hb dL_pass_0 rfl (lv_at hl 2 rfl) ?_
  refine lv_iconst (v := 0) hx hb dL_pass_1 (by decide) ?_
  refine lv_aload_n hx hb dL_pass_2 rfl (lv_at hl 0 rfl) ?_
  refine lv_iload_n hx hb dL_pass_3 rfl (lv_at hl 1 rfl) ?_
  refine kcallVJ (U := Unit) (As := [.int (nI nh)]) (rest := [.int 0, .ref o]) (Wr := [arJ cJ o ww]) (Wc := [clP cI cZ cS O k g a d w0 c f z V T n K G L v]) (Wo := fun u => [clP cI cZ cS O k g a d w0 (cN c z) (fN f z) (savZ z) (vput (savV V z) (hrs (V 0) nh)) T n K G L v]) X (k_pass l D cI cZ cS cJ O k g a d w0 c f z V T n K G L v nh hz6 hf hO h1 h2 hn) (cwV 1 hts gL_pass_X6_pass rfl rfl rfl (by decide +kernel) ⟨Nat.le_of_ble_eq_true rfl, Nat.le_of_ble_eq_true rfl⟩) hK hP hD hS hA 0 6 rfl rfl rfl hl.1 rfl (Nat.le_of_ble_eq_true rfl) dL_pass_4 ⟨Nat.le_of_ble_eq_true rfl, Nat.le_of_ble_eq_true rfl⟩ (fun u H locs hu hP hD hS => ?_)
  have hP : va_P D vwCl (List.flatten [arJ cJ o ww, clP cI cZ cS O k g a d w0 (cN c z) (fN f z) (savZ z) (vput (savV V z) (hrs (V 0) nh)) T n K G L v]) _ := hP
  have hD : va_D A (List.flatten [arJ cJ o ww, clP cI cZ cS O k g a d w0 (cN c z) (fN f z) (savZ z) (vput (savV V z) (hrs (V 0) nh)) T n K G L v]) := hD
  refine lv_i2l (v := ((hrs (V 0) nh) 12 4 - ((V 0) 12 4)).toInt64) hx hb dL_pass_7 rfl ?_
  refine r_last (w := ww) (x := ((hrs (V 0) nh) 12 4 - ((V 0) 12 4)).toInt64) (wn := List.flatten [arJ cJ o ((hrs (V 0) nh) 12 4 - ((V 0) 12 4)).toInt64, clP cI cZ cS O k g a d w0 (cN c z) (fN f z) (savZ z) (vput (savV V z) (hrs (V 0) nh)) T n K G L v]) hx hb hK hP hD hS 0 3 rfl rfl rfl dL_pass_8 (fun H locs hP hD hS => ?_)
  refine lv_goto (tgt := 15) hx hb dL_pass_9 (by decide) ?_
  refine lv_iconst (v := 0) hx hb dL_pass_15 (by decide) ?_
  refine W.widen (k := 1) (n := 6) (by omega) (by omega) ?_
  exact hend u 0 _ _ _ _ trivial rfl hP hD hS dL_pass_16

set_option maxHeartbeats 4000000 in
theorem h_passTA (l : Launch) (D : va_G) (cI cZ cS cJ : ClassId) (hl9 : l.stackTraces = false) (O k g a d : Nat → Nat) (w0 : Int32) (c : Nat → Nat → Nat) (f : Nat → Option Nat) (z : Nat) (V : Nat → Nat → Nat → Int32) (T : Nat → Int32) (n : Nat) (K G : Nat → Nat → Int32) (L : Nat → Int32) (v : Int32) (o : Nat) (ww : Int64) (x : Int32) (hT : ¬ inR x 1 99) : CH (U := Unit) l yL_pass wsL_pass ({ frames := 8, cells := 1, slots := 6, locals := 155 }) D (tyL cI cZ cS cJ) [.ref (O 0), .int x, .ref o] (List.flatten [arJ cJ o ww, clP cI cZ cS O k g a d w0 c f z V T n K G L v]) (fun _ => True) (fun _ => some (.int 1)) (fun u => List.flatten [arJ cJ o ww, clP cI cZ cS O k g a d w0 c f z V T n K G L v]) 1 6 := by
  refine CH_int (cc := cL_pass) (maxL := 4) (rt := .int) (r := fun _ => 1) (by decide) rfl (Nat.le_of_ble_eq_true rfl) (fun _ _ => rfl) ?_
  intro p e s m below meth cd A ls Q X hK hP hD hS hA hl hZ htab hend
  have X : CallFix p m cd cL_pass 4 s ([.ref (O 0), .int x, .ref o] : List Value).toArray wsL_pass RL := X
  obtain ⟨hx, hb, hml, hown, hts⟩ := id X
  have hl : lv_has ls 4 [(0, .ref (O 0)), (1, .int x), (2, .ref o)] := hl
  refine lv_aload_n hx hb dL_pass_0 rfl (lv_at hl 2 rfl) ?_
  refine lv_iconst (v := 0) hx hb dL_pass_1 (by decide) ?_
  refine lv_aload_n hx hb dL_pass_2 rfl (lv_at hl 0 rfl) ?_
  refine lv_iload_n hx hb dL_pass_3 rfl (lv_at hl 1 rfl) ?_
  refine kcallVT (As := [.int x]) (rest := [.int 0, .ref o]) (Wc := [clP cI cZ cS O k g a d w0 c f z V T n K G L v]) (Ws := [arJ cJ o ww, clP cI cZ cS O k g a d w0 c f z V T n K G L v]) X hZ (k_passTA l D cI cZ cS cJ hl9 O k g a d w0 c f z V T n K G L v x hT) (cwV 1 hts gL_pass_X6_pass rfl rfl rfl (by decide +kernel) ⟨Nat.le_of_ble_eq_true rfl, Nat.le_of_ble_eq_true rfl⟩) hK hP hD hS hA [1] rfl (by decide +kernel) 1 6 rfl rfl rfl hl.1 rfl (Nat.le_of_ble_eq_true rfl) dL_pass_4 ⟨Nat.le_of_ble_eq_true rfl, Nat.le_of_ble_eq_true rfl⟩ (fun H locs q9 ce hP hS h1 h2 h3 => ?_)
  refine vx_catch (own := RL) (name := xcA) hown [] ⟨0, 9, 12, 15⟩ [] (htab.trans rfl) (fun z9 hz9 => absurd hz9 List.not_mem_nil) (by decide) (by decide) (hts (.classLink RL 15 xcA) (by decide +kernel)) (va_Nw.use rfl hZ.1.2.1.2.1) h1 h2 h3 ?_
  refine lv_astore_n (lv' := [(3, .ref q9), (0, .ref (O 0)), (1, .int x), (2, .ref o)]) hx hb dL_pass_12 rfl hl (by decide) rfl (fun ls hl => ?_)
  refine lv_iconst (v := 1) hx hb dL_pass_13 (by decide) ?_
  refine W.widen (k := 1) (n := 6) (by omega) (by omega) ?_
  exact hend () 1 _ _ _ _ trivial rfl hP hD hS dL_pass_14

set_option maxHeartbeats 4000000 in
theorem h_appendN (l : Launch) (D : va_G) (cI cZ cS cJ : ClassId) (hl9 : l.stackTraces = false) (O k g a d : Nat → Nat) (w0 : Int32) (c : Nat → Nat → Nat) (f : Nat → Option Nat) (z : Nat) (V : Nat → Nat → Nat → Int32) (T : Nat → Int32) (n : Nat) (K G : Nat → Nat → Int32) (L : Nat → Int32) (v : Int32) (o : Nat) (ww : Int64) (x : Int32) (h60 : n < 60) (h1 : ¬ x < 33) (h2 : x ≤ 126) : CH (U := Unit) l yL_append wsL_append ({ frames := 8, cells := 1, slots := 6, locals := 125 }) D (tyL cI cZ cS cJ) [.ref (O 0), .int x, .ref o] (List.flatten [arJ cJ o ww, clP cI cZ cS O k g a d w0 c f z V T n K G L v]) (fun _ => True) (fun _ => some (.int 0)) (fun u => List.flatten [arJ cJ o (nI (n + 1)).toInt64, clP cI cZ cS O k g a d w0 c f z V (upd T n x) (n + 1) K G L v]) 1 6 := by
  refine CH_int (cc := cL_append) (maxL := 4) (rt := .int) (r := fun _ => 0) (by decide) rfl (Nat.le_of_ble_eq_true rfl) (fun _ _ => rfl) ?_
  intro p e s m below meth cd A ls Q X hK hP hD hS hA hl hZ htab hend
  have X : CallFix p m cd cL_append 4 s ([.ref (O 0), .int x, .ref o] : List Value).toArray wsL_append RL := X
  obtain ⟨hx, hb, hml, hown, hts⟩ := id X
  have hl : lv_has ls 4 [(0, .ref (O 0)), (1, .int x), (2, .ref o)] := hl
  refine lv_aload_n hx hb dL_append_0 rfl (lv_at hl 2 rfl) ?_
  refine lv_iconst (v := 0) hx hb dL_append_1 (by decide) ?_
  refine lv_aload_n hx hb dL_append_2 rfl (lv_at hl 0 rfl) ?_
  refine lv_iload_n hx hb dL_append_3 rfl (lv_at hl 1 rfl) ?_
  refine kcallVJ (U := Unit) (As := [.int x]) (rest := [.int 0, .ref o]) (Wr := [arJ cJ o ww]) (Wc := [clP cI cZ cS O k g a d w0 c f z V T n K G L v]) (Wo := fun u => [clP cI cZ cS O k g a d w0 c f z V (upd T n x) (n + 1) K G L v]) X (k_append l D cI cZ cS cJ O k g a d w0 c f z V T n K G L v x h60 h1 h2) (cwV 1 hts gL_append_X6_append rfl rfl rfl (by decide +kernel) ⟨Nat.le_of_ble_eq_true rfl, Nat.le_of_ble_eq_true rfl⟩) hK hP hD hS hA 0 6 rfl rfl rfl hl.1 rfl (Nat.le_of_ble_eq_true rfl) dL_append_4 ⟨Nat.le_of_ble_eq_true rfl, Nat.le_of_ble_eq_true rfl⟩ (fun u H locs hu hP hD hS => ?_)
  have hP : va_P D vwCl (List.flatten [arJ cJ o ww, clP cI cZ cS O k g a d w0 c f z V (upd T n x) (n + 1) K G L v]) _ := hP
  have hD : va_D A (List.flatten [arJ cJ o ww, clP cI cZ cS O k g a d w0 c f z V (upd T n x) (n + 1) K G L v]) := hD
  refine lv_i2l (v := (nI (n + 1)).toInt64) hx hb dL_append_7 rfl ?_
  refine r_last (w := ww) (x := (nI (n + 1)).toInt64) (wn := List.flatten [arJ cJ o (nI (n + 1)).toInt64, clP cI cZ cS O k g a d w0 c f z V (upd T n x) (n + 1) K G L v]) hx hb hK hP hD hS 0 3 rfl rfl rfl dL_append_8 (fun H locs hP hD hS => ?_)
  refine lv_goto (tgt := 18) hx hb dL_append_9 (by decide) ?_
  refine lv_iconst (v := 0) hx hb dL_append_18 (by decide) ?_
  refine W.widen (k := 1) (n := 6) (by omega) (by omega) ?_
  exact hend u 0 _ _ _ _ trivial rfl hP hD hS dL_append_19

set_option maxHeartbeats 4000000 in
theorem h_appendTA (l : Launch) (D : va_G) (cI cZ cS cJ : ClassId) (hl9 : l.stackTraces = false) (O k g a d : Nat → Nat) (w0 : Int32) (c : Nat → Nat → Nat) (f : Nat → Option Nat) (z : Nat) (V : Nat → Nat → Nat → Int32) (T : Nat → Int32) (n : Nat) (K G : Nat → Nat → Int32) (L : Nat → Int32) (v : Int32) (o : Nat) (ww : Int64) (x : Int32) (hT : ¬ inR x 33 126) : CH (U := Unit) l yL_append wsL_append ({ frames := 8, cells := 1, slots := 6, locals := 125 }) D (tyL cI cZ cS cJ) [.ref (O 0), .int x, .ref o] (List.flatten [arJ cJ o ww, clP cI cZ cS O k g a d w0 c f z V T n K G L v]) (fun _ => True) (fun _ => some (.int 1)) (fun u => List.flatten [arJ cJ o ww, clP cI cZ cS O k g a d w0 c f z V T n K G L v]) 1 6 := by
  refine CH_int (cc := cL_append) (maxL := 4) (rt := .int) (r := fun _ => 1) (by decide) rfl (Nat.le_of_ble_eq_true rfl) (fun _ _ => rfl) ?_
  intro p e s m below meth cd A ls Q X hK hP hD hS hA hl hZ htab hend
  have X : CallFix p m cd cL_append 4 s ([.ref (O 0), .int x, .ref o] : List Value).toArray wsL_append RL := X
  obtain ⟨hx, hb, hml, hown, hts⟩ := id X
  have hl : lv_has ls 4 [(0, .ref (O 0)), (1, .int x), (2, .ref o)] := hl
  refine lv_aload_n hx hb dL_append_0 rfl (lv_at hl 2 rfl) ?_
  refine lv_iconst (v := 0) hx hb dL_append_1 (by decide) ?_
  refine lv_aload_n hx hb dL_append_2 rfl (lv_at hl 0 rfl) ?_
  refine lv_iload_n hx hb dL_append_3 rfl (lv_at hl 1 rfl) ?_
  refine kcallVT (As := [.int x]) (rest := [.int 0, .ref o]) (Wc := [clP cI cZ cS O k g a d w0 c f z V T n K G L v]) (Ws := [arJ cJ o ww, clP cI cZ cS O k g a d w0 c f z V T n K G L v]) X hZ (k_appendTA l D cI cZ cS cJ hl9 O k g a d w0 c f z V T n K G L v x hT) (cwV 1 hts gL_append_X6_append rfl rfl rfl (by decide +kernel) ⟨Nat.le_of_ble_eq_true rfl, Nat.le_of_ble_eq_true rfl⟩) hK hP hD hS hA [1] rfl (by decide +kernel) 1 6 rfl rfl rfl hl.1 rfl (Nat.le_of_ble_eq_true rfl) dL_append_4 ⟨Nat.le_of_ble_eq_true rfl, Nat.le_of_ble_eq_true rfl⟩ (fun H locs q9 ce hP hS h1 h2 h3 => ?_)
  refine vx_catch (own := RL) (name := xcA) hown [] ⟨0, 9, 12, 15⟩ [⟨0, 9, 15, 17⟩] (htab.trans rfl) (fun z9 hz9 => absurd hz9 List.not_mem_nil) (by decide) (by decide) (hts (.classLink RL 15 xcA) (by decide +kernel)) (va_Nw.use rfl hZ.1.2.1.2.1) h1 h2 h3 ?_
  refine lv_astore_n (lv' := [(3, .ref q9), (0, .ref (O 0)), (1, .int x), (2, .ref o)]) hx hb dL_append_12 rfl hl (by decide) rfl (fun ls hl => ?_)
  refine lv_iconst (v := 1) hx hb dL_append_13 (by decide) ?_
  refine W.widen (k := 1) (n := 6) (by omega) (by omega) ?_
  exact hend () 1 _ _ _ _ trivial rfl hP hD hS dL_append_14

set_option maxHeartbeats 4000000 in
theorem h_appendTS (l : Launch) (D : va_G) (cI cZ cS cJ : ClassId) (hl9 : l.stackTraces = false) (O k g a d : Nat → Nat) (w0 : Int32) (c : Nat → Nat → Nat) (f : Nat → Option Nat) (z : Nat) (V : Nat → Nat → Nat → Int32) (T : Nat → Int32) (n : Nat) (K G : Nat → Nat → Int32) (L : Nat → Int32) (v : Int32) (o : Nat) (ww : Int64) (x : Int32) (hz60 : n = 60) (h1 : ¬ x < 33) (h2 : x ≤ 126) : CH (U := Unit) l yL_append wsL_append ({ frames := 8, cells := 1, slots := 6, locals := 125 }) D (tyL cI cZ cS cJ) [.ref (O 0), .int x, .ref o] (List.flatten [arJ cJ o ww, clP cI cZ cS O k g a d w0 c f z V T n K G L v]) (fun _ => True) (fun _ => some (.int 2)) (fun u => List.flatten [arJ cJ o ww, clP cI cZ cS O k g a d w0 c f z V T n K G L v]) 1 6 := by
  refine CH_int (cc := cL_append) (maxL := 4) (rt := .int) (r := fun _ => 2) (by decide) rfl (Nat.le_of_ble_eq_true rfl) (fun _ _ => rfl) ?_
  intro p e s m below meth cd A ls Q X hK hP hD hS hA hl hZ htab hend
  have X : CallFix p m cd cL_append 4 s ([.ref (O 0), .int x, .ref o] : List Value).toArray wsL_append RL := X
  obtain ⟨hx, hb, hml, hown, hts⟩ := id X
  have hl : lv_has ls 4 [(0, .ref (O 0)), (1, .int x), (2, .ref o)] := hl
  refine lv_aload_n hx hb dL_append_0 rfl (lv_at hl 2 rfl) ?_
  refine lv_iconst (v := 0) hx hb dL_append_1 (by decide) ?_
  refine lv_aload_n hx hb dL_append_2 rfl (lv_at hl 0 rfl) ?_
  refine lv_iload_n hx hb dL_append_3 rfl (lv_at hl 1 rfl) ?_
  refine kcallVT (As := [.int x]) (rest := [.int 0, .ref o]) (Wc := [clP cI cZ cS O k g a d w0 c f z V T n K G L v]) (Ws := [arJ cJ o ww, clP cI cZ cS O k g a d w0 c f z V T n K G L v]) X hZ (k_appendTS l D cI cZ cS cJ hl9 O k g a d w0 c f z V T n K G L v x hz60 h1 h2) (cwV 1 hts gL_append_X6_append rfl rfl rfl (by decide +kernel) ⟨Nat.le_of_ble_eq_true rfl, Nat.le_of_ble_eq_true rfl⟩) hK hP hD hS hA [1] rfl (by decide +kernel) 1 6 rfl rfl rfl hl.1 rfl (Nat.le_of_ble_eq_true rfl) dL_append_4 ⟨Nat.le_of_ble_eq_true rfl, Nat.le_of_ble_eq_true rfl⟩ (fun H locs q9 ce hP hS h1 h2 h3 => ?_)
  refine vx_catch (own := RL) (name := xcS) hown [⟨0, 9, 12, 15⟩] ⟨0, 9, 15, 17⟩ [] (htab.trans rfl) (fun z9 hz9 => by obtain rfl := List.mem_singleton.mp hz9; exact Or.inr ⟨by decide, xcA, hts (.classLink RL 15 xcA) (by decide +kernel), hZ.1.2.2.2.2⟩) (by decide) (by decide) (hts (.classLink RL 17 xcS) (by decide +kernel)) (va_Nw.use rfl hZ.1.2.1.2.2) h1 h2 h3 ?_
  refine lv_astore_n (lv' := [(3, .ref q9), (0, .ref (O 0)), (1, .int x), (2, .ref o)]) hx hb dL_append_15 rfl hl (by decide) rfl (fun ls hl => ?_)
  refine lv_iconst (v := 2) hx hb dL_append_16 (by decide) ?_
  refine W.widen (k := 1) (n := 6) (by omega) (by omega) ?_
  exact hend () 2 _ _ _ _ trivial rfl hP hD hS dL_append_17

set_option maxHeartbeats 4000000 in
theorem h_workN (l : Launch) (D : va_G) (cI cZ cS cJ : ClassId) (hl9 : l.stackTraces = false) (O k g a d : Nat → Nat) (w0 : Int32) (c : Nat → Nat → Nat) (f : Nat → Option Nat) (z : Nat) (V : Nat → Nat → Nat → Int32) (T : Nat → Int32) (n : Nat) (K G : Nat → Nat → Int32) (L : Nat → Int32) (v : Int32) (o : Nat) (ww : Int64)  (hz6 : z ≤ 6) (hf : ∀ i, i < 6 → f i = some (c i 0)) (hO : OK (V 0)) (h60 : n ≤ 60) (hc : rdS T n = 6 ∨ rdS T n = 7) : CH (U := Unit) l yL_work wsL_work ({ frames := 8, cells := 1, slots := 6, locals := 180 }) D (tyL cI cZ cS cJ) [.ref (O 0), .ref o] (List.flatten [arJ cJ o ww, clP cI cZ cS O k g a d w0 c f z V T n K G L v]) (fun _ => True) (fun _ => some (.int 0)) (fun u => List.flatten [arJ cJ o (nI ((wkT T n (V 0)).2)).toInt64, clP cI cZ cS O k g a d w0 (cN c z) (fN f z) (savZ z) (vput (savV V z) ((wkT T n (V 0)).1)) T 0 K G L v]) 1 6 := by
  refine CH_int (cc := cL_work) (maxL := 3) (rt := .int) (r := fun _ => 0) (by decide) rfl (Nat.le_of_ble_eq_true rfl) (fun _ _ => rfl) ?_
  intro p e s m below meth cd A ls Q X hK hP hD hS hA hl hZ htab hend
  have X : CallFix p m cd cL_work 3 s ([.ref (O 0), .ref o] : List Value).toArray wsL_work RL := X
  obtain ⟨hx, hb, hml, hown, hts⟩ := id X
  have hl : lv_has ls 3 [(0, .ref (O 0)), (1, .ref o)] := hl
  refine lv_aload_n hx hb dL_work_0 rfl (lv_at hl 1 rfl) ?_
  refine lv_iconst (v := 0) hx hb dL_work_1 (by decide) ?_
  refine lv_aload_n hx hb dL_work_2 rfl (lv_at hl 0 rfl) ?_
  refine kcallVJ (U := Unit) (As := []) (rest := [.int 0, .ref o]) (Wr := [arJ cJ o ww]) (Wc := [clP cI cZ cS O k g a d w0 c f z V T n K G L v]) (Wo := fun u => [clP cI cZ cS O k g a d w0 (cN c z) (fN f z) (savZ z) (vput (savV V z) ((wkT T n (V 0)).1)) T 0 K G L v]) X (k_work l D cI cZ cS cJ O k g a d w0 c f z V T n K G L v  hz6 hf hO h60 hc) (cwV 0 hts gL_work_X6_work rfl rfl rfl (by decide +kernel) ⟨Nat.le_of_ble_eq_true rfl, Nat.le_of_ble_eq_true rfl⟩) hK hP hD hS hA 0 6 rfl rfl rfl hl.1 rfl (Nat.le_of_ble_eq_true rfl) dL_work_3 ⟨Nat.le_of_ble_eq_true rfl, Nat.le_of_ble_eq_true rfl⟩ (fun u H locs hu hP hD hS => ?_)
  have hP : va_P D vwCl (List.flatten [arJ cJ o ww, clP cI cZ cS O k g a d w0 (cN c z) (fN f z) (savZ z) (vput (savV V z) ((wkT T n (V 0)).1)) T 0 K G L v]) _ := hP
  have hD : va_D A (List.flatten [arJ cJ o ww, clP cI cZ cS O k g a d w0 (cN c z) (fN f z) (savZ z) (vput (savV V z) ((wkT T n (V 0)).1)) T 0 K G L v]) := hD
  refine lv_i2l (v := (nI ((wkT T n (V 0)).2)).toInt64) hx hb dL_work_6 rfl ?_
  refine r_last (w := ww) (x := (nI ((wkT T n (V 0)).2)).toInt64) (wn := List.flatten [arJ cJ o (nI ((wkT T n (V 0)).2)).toInt64, clP cI cZ cS O k g a d w0 (cN c z) (fN f z) (savZ z) (vput (savV V z) ((wkT T n (V 0)).1)) T 0 K G L v]) hx hb hK hP hD hS 0 3 rfl rfl rfl dL_work_7 (fun H locs hP hD hS => ?_)
  refine lv_goto (tgt := 14) hx hb dL_work_8 (by decide) ?_
  refine lv_iconst (v := 0) hx hb dL_work_14 (by decide) ?_
  refine W.widen (k := 1) (n := 6) (by omega) (by omega) ?_
  exact hend u 0 _ _ _ _ trivial rfl hP hD hS dL_work_15

set_option maxHeartbeats 4000000 in
theorem h_workTA (l : Launch) (D : va_G) (cI cZ cS cJ : ClassId) (hl9 : l.stackTraces = false) (O k g a d : Nat → Nat) (w0 : Int32) (c : Nat → Nat → Nat) (f : Nat → Option Nat) (z : Nat) (V : Nat → Nat → Nat → Int32) (T : Nat → Int32) (n : Nat) (K G : Nat → Nat → Int32) (L : Nat → Int32) (v : Int32) (o : Nat) (ww : Int64)  (hz60 : n ≤ 60) (hw : ¬ (rdS T n = 6 ∨ rdS T n = 7)) : CH (U := Unit) l yL_work wsL_work ({ frames := 8, cells := 1, slots := 6, locals := 180 }) D (tyL cI cZ cS cJ) [.ref (O 0), .ref o] (List.flatten [arJ cJ o ww, clP cI cZ cS O k g a d w0 c f z V T n K G L v]) (fun _ => True) (fun _ => some (.int 1)) (fun u => List.flatten [arJ cJ o ww, clP cI cZ cS O k g a d w0 c f z V T n K G L v]) 1 6 := by
  refine CH_int (cc := cL_work) (maxL := 3) (rt := .int) (r := fun _ => 1) (by decide) rfl (Nat.le_of_ble_eq_true rfl) (fun _ _ => rfl) ?_
  intro p e s m below meth cd A ls Q X hK hP hD hS hA hl hZ htab hend
  have X : CallFix p m cd cL_work 3 s ([.ref (O 0), .ref o] : List Value).toArray wsL_work RL := X
  obtain ⟨hx, hb, hml, hown, hts⟩ := id X
  have hl : lv_has ls 3 [(0, .ref (O 0)), (1, .ref o)] := hl
  refine lv_aload_n hx hb dL_work_0 rfl (lv_at hl 1 rfl) ?_
  refine lv_iconst (v := 0) hx hb dL_work_1 (by decide) ?_
  refine lv_aload_n hx hb dL_work_2 rfl (lv_at hl 0 rfl) ?_
  refine kcallVT (As := []) (rest := [.int 0, .ref o]) (Wc := [clP cI cZ cS O k g a d w0 c f z V T n K G L v]) (Ws := [arJ cJ o ww, clP cI cZ cS O k g a d w0 c f z V T n K G L v]) X hZ (k_workTA l D cI cZ cS cJ hl9 O k g a d w0 c f z V T n K G L v  hz60 hw) (cwV 0 hts gL_work_X6_work rfl rfl rfl (by decide +kernel) ⟨Nat.le_of_ble_eq_true rfl, Nat.le_of_ble_eq_true rfl⟩) hK hP hD hS hA [1] rfl (by decide +kernel) 1 6 rfl rfl rfl hl.1 rfl (Nat.le_of_ble_eq_true rfl) dL_work_3 ⟨Nat.le_of_ble_eq_true rfl, Nat.le_of_ble_eq_true rfl⟩ (fun H locs q9 ce hP hS h1 h2 h3 => ?_)
  refine vx_catch (own := RL) (name := xcA) hown [] ⟨0, 8, 11, 15⟩ [] (htab.trans rfl) (fun z9 hz9 => absurd hz9 List.not_mem_nil) (by decide) (by decide) (hts (.classLink RL 15 xcA) (by decide +kernel)) (va_Nw.use rfl hZ.1.2.1.2.1) h1 h2 h3 ?_
  refine lv_astore_n (lv' := [(2, .ref q9), (0, .ref (O 0)), (1, .ref o)]) hx hb dL_work_11 rfl hl (by decide) rfl (fun ls hl => ?_)
  refine lv_iconst (v := 1) hx hb dL_work_12 (by decide) ?_
  refine W.widen (k := 1) (n := 6) (by omega) (by omega) ?_
  exact hend () 1 _ _ _ _ trivial rfl hP hD hS dL_work_13

set_option maxHeartbeats 4000000 in
theorem h_goBackN (l : Launch) (D : va_G) (cI cZ cS cJ : ClassId) (hl9 : l.stackTraces = false) (O k g a d : Nat → Nat) (w0 : Int32) (c : Nat → Nat → Nat) (f : Nat → Option Nat) (z : Nat) (V : Nat → Nat → Nat → Int32) (T : Nat → Int32) (n : Nat) (K G : Nat → Nat → Int32) (L : Nat → Int32) (v : Int32) (o : Nat) (ww : Int64)  (hz6 : z ≤ 6) (hf : ∀ i, i < 6 → f i = some (c i 0)) (hO : OK (V 0)) (hw0 : ¬ w0 = 0) (hO7 : OK (V 7)) : CH (U := Unit) l yL_goBack wsL_goBack ({ frames := 7, cells := 1, slots := 6, locals := 102 }) D (tyL cI cZ cS cJ) [.ref (O 0), .ref o] (List.flatten [arJ cJ o ww, clP cI cZ cS O k g a d w0 c f z V T n K G L v]) (fun _ => True) (fun _ => some (.int 0)) (fun u => List.flatten [arJ cJ o ((V 7) 12 0).toInt64, clP cI cZ cS O k g a d w0 (cN c z) (fN f z) (savZ z) (vput (savV V z) (V 7)) T n K G L v]) 1 6 := by
  refine CH_int (cc := cL_goBack) (maxL := 3) (rt := .int) (r := fun _ => 0) (by decide) rfl (Nat.le_of_ble_eq_true rfl) (fun _ _ => rfl) ?_
  intro p e s m below meth cd A ls Q X hK hP hD hS hA hl hZ htab hend
  have X : CallFix p m cd cL_goBack 3 s ([.ref (O 0), .ref o] : List Value).toArray wsL_goBack RL := X
  obtain ⟨hx, hb, hml, hown, hts⟩ := id X
  have hl : lv_has ls 3 [(0, .ref (O 0)), (1, .ref o)] := hl
  refine lv_aload_n hx hb dL_goBack_0 rfl (lv_at hl 1 rfl) ?_
  refine lv_iconst (v := 0) hx hb dL_goBack_1 (by decide) ?_
  refine lv_aload_n hx hb dL_goBack_2 rfl (lv_at hl 0 rfl) ?_
  refine kcallVJ (U := Unit) (As := []) (rest := [.int 0, .ref o]) (Wr := [arJ cJ o ww]) (Wc := [clP cI cZ cS O k g a d w0 c f z V T n K G L v]) (Wo := fun u => [clP cI cZ cS O k g a d w0 (cN c z) (fN f z) (savZ z) (vput (savV V z) (V 7)) T n K G L v]) X (k_goBack l D cI cZ cS cJ O k g a d w0 c f z V T n K G L v  hz6 hf hO hw0 hO7) (cwV 0 hts gL_goBack_X6_goBack rfl rfl rfl (by decide +kernel) ⟨Nat.le_of_ble_eq_true rfl, Nat.le_of_ble_eq_true rfl⟩) hK hP hD hS hA 0 6 rfl rfl rfl hl.1 rfl (Nat.le_of_ble_eq_true rfl) dL_goBack_3 ⟨Nat.le_of_ble_eq_true rfl, Nat.le_of_ble_eq_true rfl⟩ (fun u H locs hu hP hD hS => ?_)
  have hP : va_P D vwCl (List.flatten [arJ cJ o ww, clP cI cZ cS O k g a d w0 (cN c z) (fN f z) (savZ z) (vput (savV V z) (V 7)) T n K G L v]) _ := hP
  have hD : va_D A (List.flatten [arJ cJ o ww, clP cI cZ cS O k g a d w0 (cN c z) (fN f z) (savZ z) (vput (savV V z) (V 7)) T n K G L v]) := hD
  refine lv_i2l (v := ((V 7) 12 0).toInt64) hx hb dL_goBack_6 rfl ?_
  refine r_last (w := ww) (x := ((V 7) 12 0).toInt64) (wn := List.flatten [arJ cJ o ((V 7) 12 0).toInt64, clP cI cZ cS O k g a d w0 (cN c z) (fN f z) (savZ z) (vput (savV V z) (V 7)) T n K G L v]) hx hb hK hP hD hS 0 3 rfl rfl rfl dL_goBack_7 (fun H locs hP hD hS => ?_)
  refine lv_goto (tgt := 14) hx hb dL_goBack_8 (by decide) ?_
  refine lv_iconst (v := 0) hx hb dL_goBack_14 (by decide) ?_
  refine W.widen (k := 1) (n := 6) (by omega) (by omega) ?_
  exact hend u 0 _ _ _ _ trivial rfl hP hD hS dL_goBack_15

set_option maxHeartbeats 4000000 in
theorem h_goBackTS (l : Launch) (D : va_G) (cI cZ cS cJ : ClassId) (hl9 : l.stackTraces = false) (O k g a d : Nat → Nat) (w0 : Int32) (c : Nat → Nat → Nat) (f : Nat → Option Nat) (z : Nat) (V : Nat → Nat → Nat → Int32) (T : Nat → Int32) (n : Nat) (K G : Nat → Nat → Int32) (L : Nat → Int32) (v : Int32) (o : Nat) (ww : Int64)   : CH (U := Unit) l yL_goBack wsL_goBack ({ frames := 7, cells := 1, slots := 6, locals := 102 }) D (tyL cI cZ cS cJ) [.ref (O 0), .ref o] (List.flatten [arJ cJ o ww, clP cI cZ cS O k g a d 0 c f z V T n K G L v]) (fun _ => True) (fun _ => some (.int 1)) (fun u => List.flatten [arJ cJ o ww, clP cI cZ cS O k g a d 0 c f z V T n K G L v]) 1 6 := by
  refine CH_int (cc := cL_goBack) (maxL := 3) (rt := .int) (r := fun _ => 1) (by decide) rfl (Nat.le_of_ble_eq_true rfl) (fun _ _ => rfl) ?_
  intro p e s m below meth cd A ls Q X hK hP hD hS hA hl hZ htab hend
  have X : CallFix p m cd cL_goBack 3 s ([.ref (O 0), .ref o] : List Value).toArray wsL_goBack RL := X
  obtain ⟨hx, hb, hml, hown, hts⟩ := id X
  have hl : lv_has ls 3 [(0, .ref (O 0)), (1, .ref o)] := hl
  refine lv_aload_n hx hb dL_goBack_0 rfl (lv_at hl 1 rfl) ?_
  refine lv_iconst (v := 0) hx hb dL_goBack_1 (by decide) ?_
  refine lv_aload_n hx hb dL_goBack_2 rfl (lv_at hl 0 rfl) ?_
  refine kcallVT (As := []) (rest := [.int 0, .ref o]) (Wc := [clP cI cZ cS O k g a d 0 c f z V T n K G L v]) (Ws := [arJ cJ o ww, clP cI cZ cS O k g a d 0 c f z V T n K G L v]) X hZ (k_goBackTS l D cI cZ cS cJ hl9 O k g a d w0 c f z V T n K G L v  ) (cwV 0 hts gL_goBack_X6_goBack rfl rfl rfl (by decide +kernel) ⟨Nat.le_of_ble_eq_true rfl, Nat.le_of_ble_eq_true rfl⟩) hK hP hD hS hA [1] rfl (by decide +kernel) 1 6 rfl rfl rfl hl.1 rfl (Nat.le_of_ble_eq_true rfl) dL_goBack_3 ⟨Nat.le_of_ble_eq_true rfl, Nat.le_of_ble_eq_true rfl⟩ (fun H locs q9 ce hP hS h1 h2 h3 => ?_)
  refine vx_catch (own := RL) (name := xcS) hown [] ⟨0, 8, 11, 17⟩ [] (htab.trans rfl) (fun z9 hz9 => absurd hz9 List.not_mem_nil) (by decide) (by decide) (hts (.classLink RL 17 xcS) (by decide +kernel)) (va_Nw.use rfl hZ.1.2.1.2.2) h1 h2 h3 ?_
  refine lv_astore_n (lv' := [(2, .ref q9), (0, .ref (O 0)), (1, .ref o)]) hx hb dL_goBack_11 rfl hl (by decide) rfl (fun ls hl => ?_)
  refine lv_iconst (v := 1) hx hb dL_goBack_12 (by decide) ?_
  refine W.widen (k := 1) (n := 6) (by omega) (by omega) ?_
  exact hend () 1 _ _ _ _ trivial rfl hP hD hS dL_goBack_13

set_option maxHeartbeats 4000000 in
theorem h_undoN (l : Launch) (D : va_G) (cI cZ cS cJ : ClassId) (hl9 : l.stackTraces = false) (O k g a d : Nat → Nat) (w0 : Int32) (c : Nat → Nat → Nat) (f : Nat → Option Nat) (z : Nat) (V : Nat → Nat → Nat → Int32) (T : Nat → Int32) (n : Nat) (K G : Nat → Nat → Int32) (L : Nat → Int32) (v : Int32) (o : Nat) (ww : Int64)  (hz6 : z ≤ 6) (hf : ∀ i, i < 6 → f i = some (c i 0)) (hz0 : 0 < z) (hOz : OK (V z)) : CH (U := Unit) l yL_undo wsL_undo ({ frames := 7, cells := 1, slots := 6, locals := 102 }) D (tyL cI cZ cS cJ) [.ref (O 0), .ref o] (List.flatten [arJ cJ o ww, clP cI cZ cS O k g a d w0 c f z V T n K G L v]) (fun _ => True) (fun _ => some (.int 0)) (fun u => List.flatten [arJ cJ o (nI (z - 1)).toInt64, clP cI cZ cS O k g a d w0 c f (z - 1) (vput V (V z)) T n K G L v]) 1 6 := by
  refine CH_int (cc := cL_undo) (maxL := 3) (rt := .int) (r := fun _ => 0) (by decide) rfl (Nat.le_of_ble_eq_true rfl) (fun _ _ => rfl) ?_
  intro p e s m below meth cd A ls Q X hK hP hD hS hA hl hZ htab hend
  have X : CallFix p m cd cL_undo 3 s ([.ref (O 0), .ref o] : List Value).toArray wsL_undo RL := X
  obtain ⟨hx, hb, hml, hown, hts⟩ := id X
  have hl : lv_has ls 3 [(0, .ref (O 0)), (1, .ref o)] := hl
  refine lv_aload_n hx hb dL_undo_0 rfl (lv_at hl 1 rfl) ?_
  refine lv_iconst (v := 0) hx hb dL_undo_1 (by decide) ?_
  refine lv_aload_n hx hb dL_undo_2 rfl (lv_at hl 0 rfl) ?_
  refine kcallVJ (U := Unit) (As := []) (rest := [.int 0, .ref o]) (Wr := [arJ cJ o ww]) (Wc := [clP cI cZ cS O k g a d w0 c f z V T n K G L v]) (Wo := fun u => [clP cI cZ cS O k g a d w0 c f (z - 1) (vput V (V z)) T n K G L v]) X (k_undo l D cI cZ cS cJ O k g a d w0 c f z V T n K G L v  hz6 hf hz0 hOz) (cwV 0 hts gL_undo_X6_undo rfl rfl rfl (by decide +kernel) ⟨Nat.le_of_ble_eq_true rfl, Nat.le_of_ble_eq_true rfl⟩) hK hP hD hS hA 0 6 rfl rfl rfl hl.1 rfl (Nat.le_of_ble_eq_true rfl) dL_undo_3 ⟨Nat.le_of_ble_eq_true rfl, Nat.le_of_ble_eq_true rfl⟩ (fun u H locs hu hP hD hS => ?_)
  have hP : va_P D vwCl (List.flatten [arJ cJ o ww, clP cI cZ cS O k g a d w0 c f (z - 1) (vput V (V z)) T n K G L v]) _ := hP
  have hD : va_D A (List.flatten [arJ cJ o ww, clP cI cZ cS O k g a d w0 c f (z - 1) (vput V (V z)) T n K G L v]) := hD
  refine lv_i2l (v := (nI (z - 1)).toInt64) hx hb dL_undo_6 rfl ?_
  refine r_last (w := ww) (x := (nI (z - 1)).toInt64) (wn := List.flatten [arJ cJ o (nI (z - 1)).toInt64, clP cI cZ cS O k g a d w0 c f (z - 1) (vput V (V z)) T n K G L v]) hx hb hK hP hD hS 0 3 rfl rfl rfl dL_undo_7 (fun H locs hP hD hS => ?_)
  refine lv_goto (tgt := 14) hx hb dL_undo_8 (by decide) ?_
  refine lv_iconst (v := 0) hx hb dL_undo_14 (by decide) ?_
  refine W.widen (k := 1) (n := 6) (by omega) (by omega) ?_
  exact hend u 0 _ _ _ _ trivial rfl hP hD hS dL_undo_15

set_option maxHeartbeats 4000000 in
theorem h_undoTS (l : Launch) (D : va_G) (cI cZ cS cJ : ClassId) (hl9 : l.stackTraces = false) (O k g a d : Nat → Nat) (w0 : Int32) (c : Nat → Nat → Nat) (f : Nat → Option Nat) (z : Nat) (V : Nat → Nat → Nat → Int32) (T : Nat → Int32) (n : Nat) (K G : Nat → Nat → Int32) (L : Nat → Int32) (v : Int32) (o : Nat) (ww : Int64)   : CH (U := Unit) l yL_undo wsL_undo ({ frames := 7, cells := 1, slots := 6, locals := 102 }) D (tyL cI cZ cS cJ) [.ref (O 0), .ref o] (List.flatten [arJ cJ o ww, clP cI cZ cS O k g a d w0 c f 0 V T n K G L v]) (fun _ => True) (fun _ => some (.int 1)) (fun u => List.flatten [arJ cJ o ww, clP cI cZ cS O k g a d w0 c f 0 V T n K G L v]) 1 6 := by
  refine CH_int (cc := cL_undo) (maxL := 3) (rt := .int) (r := fun _ => 1) (by decide) rfl (Nat.le_of_ble_eq_true rfl) (fun _ _ => rfl) ?_
  intro p e s m below meth cd A ls Q X hK hP hD hS hA hl hZ htab hend
  have X : CallFix p m cd cL_undo 3 s ([.ref (O 0), .ref o] : List Value).toArray wsL_undo RL := X
  obtain ⟨hx, hb, hml, hown, hts⟩ := id X
  have hl : lv_has ls 3 [(0, .ref (O 0)), (1, .ref o)] := hl
  refine lv_aload_n hx hb dL_undo_0 rfl (lv_at hl 1 rfl) ?_
  refine lv_iconst (v := 0) hx hb dL_undo_1 (by decide) ?_
  refine lv_aload_n hx hb dL_undo_2 rfl (lv_at hl 0 rfl) ?_
  refine kcallVT (As := []) (rest := [.int 0, .ref o]) (Wc := [clP cI cZ cS O k g a d w0 c f 0 V T n K G L v]) (Ws := [arJ cJ o ww, clP cI cZ cS O k g a d w0 c f 0 V T n K G L v]) X hZ (k_undoTS l D cI cZ cS cJ hl9 O k g a d w0 c f z V T n K G L v  ) (cwV 0 hts gL_undo_X6_undo rfl rfl rfl (by decide +kernel) ⟨Nat.le_of_ble_eq_true rfl, Nat.le_of_ble_eq_true rfl⟩) hK hP hD hS hA [1] rfl (by decide +kernel) 1 6 rfl rfl rfl hl.1 rfl (Nat.le_of_ble_eq_true rfl) dL_undo_3 ⟨Nat.le_of_ble_eq_true rfl, Nat.le_of_ble_eq_true rfl⟩ (fun H locs q9 ce hP hS h1 h2 h3 => ?_)
  refine vx_catch (own := RL) (name := xcS) hown [] ⟨0, 8, 11, 17⟩ [] (htab.trans rfl) (fun z9 hz9 => absurd hz9 List.not_mem_nil) (by decide) (by decide) (hts (.classLink RL 17 xcS) (by decide +kernel)) (va_Nw.use rfl hZ.1.2.1.2.2) h1 h2 h3 ?_
  refine lv_astore_n (lv' := [(2, .ref q9), (0, .ref (O 0)), (1, .ref o)]) hx hb dL_undo_11 rfl hl (by decide) rfl (fun ls hl => ?_)
  refine lv_iconst (v := 1) hx hb dL_undo_12 (by decide) ?_
  refine W.widen (k := 1) (n := 6) (by omega) (by omega) ?_
  exact hend () 1 _ _ _ _ trivial rfl hP hD hS dL_undo_13

set_option maxHeartbeats 4000000 in
theorem h_balloonN (l : Launch) (D : va_G) (cI cZ cS cJ : ClassId) (hl9 : l.stackTraces = false) (O k g a d : Nat → Nat) (w0 : Int32) (c : Nat → Nat → Nat) (f : Nat → Option Nat) (z : Nat) (V : Nat → Nat → Nat → Int32) (T : Nat → Int32) (n : Nat) (K G : Nat → Nat → Int32) (L : Nat → Int32) (v : Int32) (o : Nat) (ww : Int64) (b : Nat) (w : Nat) (hb8 : b < 8) (hw : w < 12) : CH (U := Unit) l yL_balloon wsL_balloon ({ frames := 8, cells := 1, slots := 6, locals := 127 }) D (tyL cI cZ cS cJ) [.ref (O 0), .int (nI b), .int (nI w), .ref o] (List.flatten [arJ cJ o ww, clP cI cZ cS O k g a d w0 c f z V T n K G L v]) (fun _ => True) (fun _ => some (.int 0)) (fun u => List.flatten [arJ cJ o (balS (V 0) b w).toInt64, clP cI cZ cS O k g a d w0 c f z V T n K G L v]) 1 6 := by
  refine CH_int (cc := cL_balloon) (maxL := 5) (rt := .int) (r := fun _ => 0) (by decide) rfl (Nat.le_of_ble_eq_true rfl) (fun _ _ => rfl) ?_
  intro p e s m below meth cd A ls Q X hK hP hD hS hA hl hZ htab hend
  have X : CallFix p m cd cL_balloon 5 s ([.ref (O 0), .int (nI b), .int (nI w), .ref o] : List Value).toArray wsL_balloon RL := X
  obtain ⟨hx, hb, hml, hown, hts⟩ := id X
  have hl : lv_has ls 5 [(0, .ref (O 0)), (1, .int (nI b)), (2, .int (nI w)), (3, .ref o)] := hl
  refine lv_aload_n hx hb dL_balloon_0 rfl (lv_at hl 3 rfl) ?_
  refine lv_iconst (v := 0) hx hb dL_balloon_1 (by decide) ?_
  refine lv_aload_n hx hb dL_balloon_2 rfl (lv_at hl 0 rfl) ?_
  refine lv_iload_n hx hb dL_balloon_3 rfl (lv_at hl 1 rfl) ?_
  refine lv_iload_n hx hb dL_balloon_4 rfl (lv_at hl 2 rfl) ?_
  refine kcallVJ (U := Unit) (As := [.int (nI b), .int (nI w)]) (rest := [.int 0, .ref o]) (Wr := [arJ cJ o ww]) (Wc := [clP cI cZ cS O k g a d w0 c f z V T n K G L v]) (Wo := fun u => [clP cI cZ cS O k g a d w0 c f z V T n K G L v]) X (k_balloon l D cI cZ cS cJ O k g a d w0 c f z V T n K G L v b w hb8 hw) (cwV 2 hts gL_balloon_X6_balloon rfl rfl rfl (by decide +kernel) ⟨Nat.le_of_ble_eq_true rfl, Nat.le_of_ble_eq_true rfl⟩) hK hP hD hS hA 0 6 rfl rfl rfl hl.1 rfl (Nat.le_of_ble_eq_true rfl) dL_balloon_5 ⟨Nat.le_of_ble_eq_true rfl, Nat.le_of_ble_eq_true rfl⟩ (fun u H locs hu hP hD hS => ?_)
  have hP : va_P D vwCl (List.flatten [arJ cJ o ww, clP cI cZ cS O k g a d w0 c f z V T n K G L v]) _ := hP
  have hD : va_D A (List.flatten [arJ cJ o ww, clP cI cZ cS O k g a d w0 c f z V T n K G L v]) := hD
  refine lv_i2l (v := (balS (V 0) b w).toInt64) hx hb dL_balloon_8 rfl ?_
  refine r_last (w := ww) (x := (balS (V 0) b w).toInt64) (wn := List.flatten [arJ cJ o (balS (V 0) b w).toInt64, clP cI cZ cS O k g a d w0 c f z V T n K G L v]) hx hb hK hP hD hS 0 3 rfl rfl rfl dL_balloon_9 (fun H locs hP hD hS => ?_)
  refine lv_goto (tgt := 21) hx hb dL_balloon_10 (by decide) ?_
  refine lv_iconst (v := 0) hx hb dL_balloon_21 (by decide) ?_
  refine W.widen (k := 1) (n := 6) (by omega) (by omega) ?_
  exact hend u 0 _ _ _ _ trivial rfl hP hD hS dL_balloon_22

set_option maxHeartbeats 4000000 in
theorem h_balloonTI (l : Launch) (D : va_G) (cI cZ cS cJ : ClassId) (hl9 : l.stackTraces = false) (O k g a d : Nat → Nat) (w0 : Int32) (c : Nat → Nat → Nat) (f : Nat → Option Nat) (z : Nat) (V : Nat → Nat → Nat → Int32) (T : Nat → Int32) (n : Nat) (K G : Nat → Nat → Int32) (L : Nat → Int32) (v : Int32) (o : Nat) (ww : Int64) (x : Int32) (y : Int32) (hT : ¬ isB x) : CH (U := Unit) l yL_balloon wsL_balloon ({ frames := 8, cells := 1, slots := 6, locals := 127 }) D (tyL cI cZ cS cJ) [.ref (O 0), .int x, .int y, .ref o] (List.flatten [arJ cJ o ww, clP cI cZ cS O k g a d w0 c f z V T n K G L v]) (fun _ => True) (fun _ => some (.int 1)) (fun u => List.flatten [arJ cJ o ww, clP cI cZ cS O k g a d w0 c f z V T n K G L v]) 1 6 := by
  refine CH_int (cc := cL_balloon) (maxL := 5) (rt := .int) (r := fun _ => 1) (by decide) rfl (Nat.le_of_ble_eq_true rfl) (fun _ _ => rfl) ?_
  intro p e s m below meth cd A ls Q X hK hP hD hS hA hl hZ htab hend
  have X : CallFix p m cd cL_balloon 5 s ([.ref (O 0), .int x, .int y, .ref o] : List Value).toArray wsL_balloon RL := X
  obtain ⟨hx, hb, hml, hown, hts⟩ := id X
  have hl : lv_has ls 5 [(0, .ref (O 0)), (1, .int x), (2, .int y), (3, .ref o)] := hl
  refine lv_aload_n hx hb dL_balloon_0 rfl (lv_at hl 3 rfl) ?_
  refine lv_iconst (v := 0) hx hb dL_balloon_1 (by decide) ?_
  refine lv_aload_n hx hb dL_balloon_2 rfl (lv_at hl 0 rfl) ?_
  refine lv_iload_n hx hb dL_balloon_3 rfl (lv_at hl 1 rfl) ?_
  refine lv_iload_n hx hb dL_balloon_4 rfl (lv_at hl 2 rfl) ?_
  refine kcallVT (As := [.int x, .int y]) (rest := [.int 0, .ref o]) (Wc := [clP cI cZ cS O k g a d w0 c f z V T n K G L v]) (Ws := [arJ cJ o ww, clP cI cZ cS O k g a d w0 c f z V T n K G L v]) X hZ (k_balloonTI l D cI cZ cS cJ hl9 O k g a d w0 c f z V T n K G L v x y hT) (cwV 2 hts gL_balloon_X6_balloon rfl rfl rfl (by decide +kernel) ⟨Nat.le_of_ble_eq_true rfl, Nat.le_of_ble_eq_true rfl⟩) hK hP hD hS hA [1] rfl (by decide +kernel) 1 6 rfl rfl rfl hl.1 rfl (Nat.le_of_ble_eq_true rfl) dL_balloon_5 ⟨Nat.le_of_ble_eq_true rfl, Nat.le_of_ble_eq_true rfl⟩ (fun H locs q9 ce hP hS h1 h2 h3 => ?_)
  refine vx_catch (own := RL) (name := xcI) hown [] ⟨0, 10, 13, 13⟩ [⟨0, 10, 17, 15⟩] (htab.trans rfl) (fun z9 hz9 => absurd hz9 List.not_mem_nil) (by decide) (by decide) (hts (.classLink RL 13 xcI) (by decide +kernel)) (va_Nw.use rfl hZ.1.2.1.1) h1 h2 h3 ?_
  refine lv_astore (lv' := [(4, .ref q9), (0, .ref (O 0)), (1, .int x), (2, .int y), (3, .ref o)]) hx hb dL_balloon_13 hl (by decide) rfl (fun ls hl => ?_)
  refine lv_iconst (v := 1) hx hb dL_balloon_15 (by decide) ?_
  refine W.widen (k := 1) (n := 6) (by omega) (by omega) ?_
  exact hend () 1 _ _ _ _ trivial rfl hP hD hS dL_balloon_16

set_option maxHeartbeats 4000000 in
theorem h_balloonTA (l : Launch) (D : va_G) (cI cZ cS cJ : ClassId) (hl9 : l.stackTraces = false) (O k g a d : Nat → Nat) (w0 : Int32) (c : Nat → Nat → Nat) (f : Nat → Option Nat) (z : Nat) (V : Nat → Nat → Nat → Int32) (T : Nat → Int32) (n : Nat) (K G : Nat → Nat → Int32) (L : Nat → Int32) (v : Int32) (o : Nat) (ww : Int64) (b : Nat) (x : Int32) (hb8 : b < 8) (hT : ¬ inR x 0 11) : CH (U := Unit) l yL_balloon wsL_balloon ({ frames := 8, cells := 1, slots := 6, locals := 127 }) D (tyL cI cZ cS cJ) [.ref (O 0), .int (nI b), .int x, .ref o] (List.flatten [arJ cJ o ww, clP cI cZ cS O k g a d w0 c f z V T n K G L v]) (fun _ => True) (fun _ => some (.int 2)) (fun u => List.flatten [arJ cJ o ww, clP cI cZ cS O k g a d w0 c f z V T n K G L v]) 1 6 := by
  refine CH_int (cc := cL_balloon) (maxL := 5) (rt := .int) (r := fun _ => 2) (by decide) rfl (Nat.le_of_ble_eq_true rfl) (fun _ _ => rfl) ?_
  intro p e s m below meth cd A ls Q X hK hP hD hS hA hl hZ htab hend
  have X : CallFix p m cd cL_balloon 5 s ([.ref (O 0), .int (nI b), .int x, .ref o] : List Value).toArray wsL_balloon RL := X
  obtain ⟨hx, hb, hml, hown, hts⟩ := id X
  have hl : lv_has ls 5 [(0, .ref (O 0)), (1, .int (nI b)), (2, .int x), (3, .ref o)] := hl
  refine lv_aload_n hx hb dL_balloon_0 rfl (lv_at hl 3 rfl) ?_
  refine lv_iconst (v := 0) hx hb dL_balloon_1 (by decide) ?_
  refine lv_aload_n hx hb dL_balloon_2 rfl (lv_at hl 0 rfl) ?_
  refine lv_iload_n hx hb dL_balloon_3 rfl (lv_at hl 1 rfl) ?_
  refine lv_iload_n hx hb dL_balloon_4 rfl (lv_at hl 2 rfl) ?_
  refine kcallVT (As := [.int (nI b), .int x]) (rest := [.int 0, .ref o]) (Wc := [clP cI cZ cS O k g a d w0 c f z V T n K G L v]) (Ws := [arJ cJ o ww, clP cI cZ cS O k g a d w0 c f z V T n K G L v]) X hZ (k_balloonTA l D cI cZ cS cJ hl9 O k g a d w0 c f z V T n K G L v b x hb8 hT) (cwV 2 hts gL_balloon_X6_balloon rfl rfl rfl (by decide +kernel) ⟨Nat.le_of_ble_eq_true rfl, Nat.le_of_ble_eq_true rfl⟩) hK hP hD hS hA [1] rfl (by decide +kernel) 1 6 rfl rfl rfl hl.1 rfl (Nat.le_of_ble_eq_true rfl) dL_balloon_5 ⟨Nat.le_of_ble_eq_true rfl, Nat.le_of_ble_eq_true rfl⟩ (fun H locs q9 ce hP hS h1 h2 h3 => ?_)
  refine vx_catch (own := RL) (name := xcA) hown [⟨0, 10, 13, 13⟩] ⟨0, 10, 17, 15⟩ [] (htab.trans rfl) (fun z9 hz9 => by obtain rfl := List.mem_singleton.mp hz9; exact Or.inr ⟨by decide, xcI, hts (.classLink RL 13 xcI) (by decide +kernel), hZ.1.2.2.1⟩) (by decide) (by decide) (hts (.classLink RL 15 xcA) (by decide +kernel)) (va_Nw.use rfl hZ.1.2.1.2.1) h1 h2 h3 ?_
  refine lv_astore (lv' := [(4, .ref q9), (0, .ref (O 0)), (1, .int (nI b)), (2, .int x), (3, .ref o)]) hx hb dL_balloon_17 hl (by decide) rfl (fun ls hl => ?_)
  refine lv_iconst (v := 2) hx hb dL_balloon_19 (by decide) ?_
  refine W.widen (k := 1) (n := 6) (by omega) (by omega) ?_
  exact hend () 2 _ _ _ _ trivial rfl hP hD hS dL_balloon_20

set_option maxHeartbeats 4000000 in
theorem h_ribbonN (l : Launch) (D : va_G) (cI cZ cS cJ : ClassId) (hl9 : l.stackTraces = false) (O k g a d : Nat → Nat) (w0 : Int32) (c : Nat → Nat → Nat) (f : Nat → Option Nat) (z : Nat) (V : Nat → Nat → Nat → Int32) (T : Nat → Int32) (n : Nat) (K G : Nat → Nat → Int32) (L : Nat → Int32) (v : Int32) (o : Nat) (ww : Int64) (r : Nat) (w : Nat) (hr7 : r < 7) (hw : w < 5) : CH (U := Unit) l yL_ribbon wsL_ribbon ({ frames := 8, cells := 1, slots := 6, locals := 131 }) D (tyL cI cZ cS cJ) [.ref (O 0), .int (nI r), .int (nI w), .ref o] (List.flatten [arJ cJ o ww, clP cI cZ cS O k g a d w0 c f z V T n K G L v]) (fun _ => True) (fun _ => some (.int 0)) (fun u => List.flatten [arJ cJ o (ribS (V 0) r w).toInt64, clP cI cZ cS O k g a d w0 c f z V T n K G L v]) 1 6 := by
  refine CH_int (cc := cL_ribbon) (maxL := 5) (rt := .int) (r := fun _ => 0) (by decide) rfl (Nat.le_of_ble_eq_true rfl) (fun _ _ => rfl) ?_
  intro p e s m below meth cd A ls Q X hK hP hD hS hA hl hZ htab hend
  have X : CallFix p m cd cL_ribbon 5 s ([.ref (O 0), .int (nI r), .int (nI w), .ref o] : List Value).toArray wsL_ribbon RL := X
  obtain ⟨hx, hb, hml, hown, hts⟩ := id X
  have hl : lv_has ls 5 [(0, .ref (O 0)), (1, .int (nI r)), (2, .int (nI w)), (3, .ref o)] := hl
  refine lv_aload_n hx hb dL_ribbon_0 rfl (lv_at hl 3 rfl) ?_
  refine lv_iconst (v := 0) hx hb dL_ribbon_1 (by decide) ?_
  refine lv_aload_n hx hb dL_ribbon_2 rfl (lv_at hl 0 rfl) ?_
  refine lv_iload_n hx hb dL_ribbon_3 rfl (lv_at hl 1 rfl) ?_
  refine lv_iload_n hx hb dL_ribbon_4 rfl (lv_at hl 2 rfl) ?_
  refine kcallVJ (U := Unit) (As := [.int (nI r), .int (nI w)]) (rest := [.int 0, .ref o]) (Wr := [arJ cJ o ww]) (Wc := [clP cI cZ cS O k g a d w0 c f z V T n K G L v]) (Wo := fun u => [clP cI cZ cS O k g a d w0 c f z V T n K G L v]) X (k_ribbon l D cI cZ cS cJ O k g a d w0 c f z V T n K G L v r w hr7 hw) (cwV 2 hts gL_ribbon_X6_ribbon rfl rfl rfl (by decide +kernel) ⟨Nat.le_of_ble_eq_true rfl, Nat.le_of_ble_eq_true rfl⟩) hK hP hD hS hA 0 6 rfl rfl rfl hl.1 rfl (Nat.le_of_ble_eq_true rfl) dL_ribbon_5 ⟨Nat.le_of_ble_eq_true rfl, Nat.le_of_ble_eq_true rfl⟩ (fun u H locs hu hP hD hS => ?_)
  have hP : va_P D vwCl (List.flatten [arJ cJ o ww, clP cI cZ cS O k g a d w0 c f z V T n K G L v]) _ := hP
  have hD : va_D A (List.flatten [arJ cJ o ww, clP cI cZ cS O k g a d w0 c f z V T n K G L v]) := hD
  refine lv_i2l (v := (ribS (V 0) r w).toInt64) hx hb dL_ribbon_8 rfl ?_
  refine r_last (w := ww) (x := (ribS (V 0) r w).toInt64) (wn := List.flatten [arJ cJ o (ribS (V 0) r w).toInt64, clP cI cZ cS O k g a d w0 c f z V T n K G L v]) hx hb hK hP hD hS 0 3 rfl rfl rfl dL_ribbon_9 (fun H locs hP hD hS => ?_)
  refine lv_goto (tgt := 21) hx hb dL_ribbon_10 (by decide) ?_
  refine lv_iconst (v := 0) hx hb dL_ribbon_21 (by decide) ?_
  refine W.widen (k := 1) (n := 6) (by omega) (by omega) ?_
  exact hend u 0 _ _ _ _ trivial rfl hP hD hS dL_ribbon_22

set_option maxHeartbeats 4000000 in
theorem h_ribbonTI (l : Launch) (D : va_G) (cI cZ cS cJ : ClassId) (hl9 : l.stackTraces = false) (O k g a d : Nat → Nat) (w0 : Int32) (c : Nat → Nat → Nat) (f : Nat → Option Nat) (z : Nat) (V : Nat → Nat → Nat → Int32) (T : Nat → Int32) (n : Nat) (K G : Nat → Nat → Int32) (L : Nat → Int32) (v : Int32) (o : Nat) (ww : Int64) (x : Int32) (y : Int32) (hT : ¬ isR x) : CH (U := Unit) l yL_ribbon wsL_ribbon ({ frames := 8, cells := 1, slots := 6, locals := 131 }) D (tyL cI cZ cS cJ) [.ref (O 0), .int x, .int y, .ref o] (List.flatten [arJ cJ o ww, clP cI cZ cS O k g a d w0 c f z V T n K G L v]) (fun _ => True) (fun _ => some (.int 1)) (fun u => List.flatten [arJ cJ o ww, clP cI cZ cS O k g a d w0 c f z V T n K G L v]) 1 6 := by
  refine CH_int (cc := cL_ribbon) (maxL := 5) (rt := .int) (r := fun _ => 1) (by decide) rfl (Nat.le_of_ble_eq_true rfl) (fun _ _ => rfl) ?_
  intro p e s m below meth cd A ls Q X hK hP hD hS hA hl hZ htab hend
  have X : CallFix p m cd cL_ribbon 5 s ([.ref (O 0), .int x, .int y, .ref o] : List Value).toArray wsL_ribbon RL := X
  obtain ⟨hx, hb, hml, hown, hts⟩ := id X
  have hl : lv_has ls 5 [(0, .ref (O 0)), (1, .int x), (2, .int y), (3, .ref o)] := hl
  refine lv_aload_n hx hb dL_ribbon_0 rfl (lv_at hl 3 rfl) ?_
  refine lv_iconst (v := 0) hx hb dL_ribbon_1 (by decide) ?_
  refine lv_aload_n hx hb dL_ribbon_2 rfl (lv_at hl 0 rfl) ?_
  refine lv_iload_n hx hb dL_ribbon_3 rfl (lv_at hl 1 rfl) ?_
  refine lv_iload_n hx hb dL_ribbon_4 rfl (lv_at hl 2 rfl) ?_
  refine kcallVT (As := [.int x, .int y]) (rest := [.int 0, .ref o]) (Wc := [clP cI cZ cS O k g a d w0 c f z V T n K G L v]) (Ws := [arJ cJ o ww, clP cI cZ cS O k g a d w0 c f z V T n K G L v]) X hZ (k_ribbonTI l D cI cZ cS cJ hl9 O k g a d w0 c f z V T n K G L v x y hT) (cwV 2 hts gL_ribbon_X6_ribbon rfl rfl rfl (by decide +kernel) ⟨Nat.le_of_ble_eq_true rfl, Nat.le_of_ble_eq_true rfl⟩) hK hP hD hS hA [1] rfl (by decide +kernel) 1 6 rfl rfl rfl hl.1 rfl (Nat.le_of_ble_eq_true rfl) dL_ribbon_5 ⟨Nat.le_of_ble_eq_true rfl, Nat.le_of_ble_eq_true rfl⟩ (fun H locs q9 ce hP hS h1 h2 h3 => ?_)
  refine vx_catch (own := RL) (name := xcI) hown [] ⟨0, 10, 13, 13⟩ [⟨0, 10, 17, 15⟩] (htab.trans rfl) (fun z9 hz9 => absurd hz9 List.not_mem_nil) (by decide) (by decide) (hts (.classLink RL 13 xcI) (by decide +kernel)) (va_Nw.use rfl hZ.1.2.1.1) h1 h2 h3 ?_
  refine lv_astore (lv' := [(4, .ref q9), (0, .ref (O 0)), (1, .int x), (2, .int y), (3, .ref o)]) hx hb dL_ribbon_13 hl (by decide) rfl (fun ls hl => ?_)
  refine lv_iconst (v := 1) hx hb dL_ribbon_15 (by decide) ?_
  refine W.widen (k := 1) (n := 6) (by omega) (by omega) ?_
  exact hend () 1 _ _ _ _ trivial rfl hP hD hS dL_ribbon_16

set_option maxHeartbeats 4000000 in
theorem h_ribbonTA (l : Launch) (D : va_G) (cI cZ cS cJ : ClassId) (hl9 : l.stackTraces = false) (O k g a d : Nat → Nat) (w0 : Int32) (c : Nat → Nat → Nat) (f : Nat → Option Nat) (z : Nat) (V : Nat → Nat → Nat → Int32) (T : Nat → Int32) (n : Nat) (K G : Nat → Nat → Int32) (L : Nat → Int32) (v : Int32) (o : Nat) (ww : Int64) (r : Nat) (x : Int32) (hr7 : r < 7) (hT : ¬ inR x 0 4) : CH (U := Unit) l yL_ribbon wsL_ribbon ({ frames := 8, cells := 1, slots := 6, locals := 131 }) D (tyL cI cZ cS cJ) [.ref (O 0), .int (nI r), .int x, .ref o] (List.flatten [arJ cJ o ww, clP cI cZ cS O k g a d w0 c f z V T n K G L v]) (fun _ => True) (fun _ => some (.int 2)) (fun u => List.flatten [arJ cJ o ww, clP cI cZ cS O k g a d w0 c f z V T n K G L v]) 1 6 := by
  refine CH_int (cc := cL_ribbon) (maxL := 5) (rt := .int) (r := fun _ => 2) (by decide) rfl (Nat.le_of_ble_eq_true rfl) (fun _ _ => rfl) ?_
  intro p e s m below meth cd A ls Q X hK hP hD hS hA hl hZ htab hend
  have X : CallFix p m cd cL_ribbon 5 s ([.ref (O 0), .int (nI r), .int x, .ref o] : List Value).toArray wsL_ribbon RL := X
  obtain ⟨hx, hb, hml, hown, hts⟩ := id X
  have hl : lv_has ls 5 [(0, .ref (O 0)), (1, .int (nI r)), (2, .int x), (3, .ref o)] := hl
  refine lv_aload_n hx hb dL_ribbon_0 rfl (lv_at hl 3 rfl) ?_
  refine lv_iconst (v := 0) hx hb dL_ribbon_1 (by decide) ?_
  refine lv_aload_n hx hb dL_ribbon_2 rfl (lv_at hl 0 rfl) ?_
  refine lv_iload_n hx hb dL_ribbon_3 rfl (lv_at hl 1 rfl) ?_
  refine lv_iload_n hx hb dL_ribbon_4 rfl (lv_at hl 2 rfl) ?_
  refine kcallVT (As := [.int (nI r), .int x]) (rest := [.int 0, .ref o]) (Wc := [clP cI cZ cS O k g a d w0 c f z V T n K G L v]) (Ws := [arJ cJ o ww, clP cI cZ cS O k g a d w0 c f z V T n K G L v]) X hZ (k_ribbonTA l D cI cZ cS cJ hl9 O k g a d w0 c f z V T n K G L v r x hr7 hT) (cwV 2 hts gL_ribbon_X6_ribbon rfl rfl rfl (by decide +kernel) ⟨Nat.le_of_ble_eq_true rfl, Nat.le_of_ble_eq_true rfl⟩) hK hP hD hS hA [1] rfl (by decide +kernel) 1 6 rfl rfl rfl hl.1 rfl (Nat.le_of_ble_eq_true rfl) dL_ribbon_5 ⟨Nat.le_of_ble_eq_true rfl, Nat.le_of_ble_eq_true rfl⟩ (fun H locs q9 ce hP hS h1 h2 h3 => ?_)
  refine vx_catch (own := RL) (name := xcA) hown [⟨0, 10, 13, 13⟩] ⟨0, 10, 17, 15⟩ [] (htab.trans rfl) (fun z9 hz9 => by obtain rfl := List.mem_singleton.mp hz9; exact Or.inr ⟨by decide, xcI, hts (.classLink RL 13 xcI) (by decide +kernel), hZ.1.2.2.1⟩) (by decide) (by decide) (hts (.classLink RL 15 xcA) (by decide +kernel)) (va_Nw.use rfl hZ.1.2.1.2.1) h1 h2 h3 ?_
  refine lv_astore (lv' := [(4, .ref q9), (0, .ref (O 0)), (1, .int (nI r)), (2, .int x), (3, .ref o)]) hx hb dL_ribbon_17 hl (by decide) rfl (fun ls hl => ?_)
  refine lv_iconst (v := 2) hx hb dL_ribbon_19 (by decide) ?_
  refine W.widen (k := 1) (n := 6) (by omega) (by omega) ?_
  exact hend () 2 _ _ _ _ trivial rfl hP hD hS dL_ribbon_20

set_option maxHeartbeats 4000000 in
theorem h_notedN (l : Launch) (D : va_G) (cI cZ cS cJ : ClassId) (hl9 : l.stackTraces = false) (O k g a d : Nat → Nat) (w0 : Int32) (c : Nat → Nat → Nat) (f : Nat → Option Nat) (z : Nat) (V : Nat → Nat → Nat → Int32) (T : Nat → Int32) (n : Nat) (K G : Nat → Nat → Int32) (L : Nat → Int32) (v : Int32) (o : Nat) (ww : Int64) (r : Nat) (w : Nat) (hO : OK (V 0)) (hr : r < 2147483648) (hw : w < 3) : CH (U := Unit) l yL_noted wsL_noted ({ frames := 8, cells := 1, slots := 6, locals := 126 }) D (tyL cI cZ cS cJ) [.ref (O 0), .int (nI r), .int (nI w), .ref o] (List.flatten [arJ cJ o ww, clP cI cZ cS O k g a d w0 c f z V T n K G L v]) (fun _ => True) (fun _ => some (.int 0)) (fun u => List.flatten [arJ cJ o (ntl (V 0) (cy (V 0)) r w).toInt64, clP cI cZ cS O k g a d w0 c f z V T n K G L v]) 1 6 := by
  refine CH_int (cc := cL_noted) (maxL := 5) (rt := .int) (r := fun _ => 0) (by decide) rfl (Nat.le_of_ble_eq_true rfl) (fun _ _ => rfl) ?_
  intro p e s m below meth cd A ls Q X hK hP hD hS hA hl hZ htab hend
  have X : CallFix p m cd cL_noted 5 s ([.ref (O 0), .int (nI r), .int (nI w), .ref o] : List Value).toArray wsL_noted RL := X
  obtain ⟨hx, hb, hml, hown, hts⟩ := id X
  have hl : lv_has ls 5 [(0, .ref (O 0)), (1, .int (nI r)), (2, .int (nI w)), (3, .ref o)] := hl
  refine lv_aload_n hx hb dL_noted_0 rfl (lv_at hl 3 rfl) ?_
  refine lv_iconst (v := 0) hx hb dL_noted_1 (by decide) ?_
  refine lv_aload_n hx hb dL_noted_2 rfl (lv_at hl 0 rfl) ?_
  refine lv_iload_n hx hb dL_noted_3 rfl (lv_at hl 1 rfl) ?_
  refine lv_iload_n hx hb dL_noted_4 rfl (lv_at hl 2 rfl) ?_
  refine kcallVJ (U := Unit) (As := [.int (nI r), .int (nI w)]) (rest := [.int 0, .ref o]) (Wr := [arJ cJ o ww]) (Wc := [clP cI cZ cS O k g a d w0 c f z V T n K G L v]) (Wo := fun u => [clP cI cZ cS O k g a d w0 c f z V T n K G L v]) X (k_noted l D cI cZ cS cJ O k g a d w0 c f z V T n K G L v r w hO hr hw) (cwV 2 hts gL_noted_X6_noted rfl rfl rfl (by decide +kernel) ⟨Nat.le_of_ble_eq_true rfl, Nat.le_of_ble_eq_true rfl⟩) hK hP hD hS hA 0 6 rfl rfl rfl hl.1 rfl (Nat.le_of_ble_eq_true rfl) dL_noted_5 ⟨Nat.le_of_ble_eq_true rfl, Nat.le_of_ble_eq_true rfl⟩ (fun u H locs hu hP hD hS => ?_)
  have hP : va_P D vwCl (List.flatten [arJ cJ o ww, clP cI cZ cS O k g a d w0 c f z V T n K G L v]) _ := hP
  have hD : va_D A (List.flatten [arJ cJ o ww, clP cI cZ cS O k g a d w0 c f z V T n K G L v]) := hD
  refine lv_i2l (v := (ntl (V 0) (cy (V 0)) r w).toInt64) hx hb dL_noted_8 rfl ?_
  refine r_last (w := ww) (x := (ntl (V 0) (cy (V 0)) r w).toInt64) (wn := List.flatten [arJ cJ o (ntl (V 0) (cy (V 0)) r w).toInt64, clP cI cZ cS O k g a d w0 c f z V T n K G L v]) hx hb hK hP hD hS 0 3 rfl rfl rfl dL_noted_9 (fun H locs hP hD hS => ?_)
  refine lv_goto (tgt := 21) hx hb dL_noted_10 (by decide) ?_
  refine lv_iconst (v := 0) hx hb dL_noted_21 (by decide) ?_
  refine W.widen (k := 1) (n := 6) (by omega) (by omega) ?_
  exact hend u 0 _ _ _ _ trivial rfl hP hD hS dL_noted_22

set_option maxHeartbeats 4000000 in
theorem h_notedTI (l : Launch) (D : va_G) (cI cZ cS cJ : ClassId) (hl9 : l.stackTraces = false) (O k g a d : Nat → Nat) (w0 : Int32) (c : Nat → Nat → Nat) (f : Nat → Option Nat) (z : Nat) (V : Nat → Nat → Nat → Int32) (T : Nat → Int32) (n : Nat) (K G : Nat → Nat → Int32) (L : Nat → Int32) (v : Int32) (o : Nat) (ww : Int64) (x : Int32) (y : Int32) (hT : x < 0) : CH (U := Unit) l yL_noted wsL_noted ({ frames := 8, cells := 1, slots := 6, locals := 126 }) D (tyL cI cZ cS cJ) [.ref (O 0), .int x, .int y, .ref o] (List.flatten [arJ cJ o ww, clP cI cZ cS O k g a d w0 c f z V T n K G L v]) (fun _ => True) (fun _ => some (.int 1)) (fun u => List.flatten [arJ cJ o ww, clP cI cZ cS O k g a d w0 c f z V T n K G L v]) 1 6 := by
  refine CH_int (cc := cL_noted) (maxL := 5) (rt := .int) (r := fun _ => 1) (by decide) rfl (Nat.le_of_ble_eq_true rfl) (fun _ _ => rfl) ?_
  intro p e s m below meth cd A ls Q X hK hP hD hS hA hl hZ htab hend
  have X : CallFix p m cd cL_noted 5 s ([.ref (O 0), .int x, .int y, .ref o] : List Value).toArray wsL_noted RL := X
  obtain ⟨hx, hb, hml, hown, hts⟩ := id X
  have hl : lv_has ls 5 [(0, .ref (O 0)), (1, .int x), (2, .int y), (3, .ref o)] := hl
  refine lv_aload_n hx hb dL_noted_0 rfl (lv_at hl 3 rfl) ?_
  refine lv_iconst (v := 0) hx hb dL_noted_1 (by decide) ?_
  refine lv_aload_n hx hb dL_noted_2 rfl (lv_at hl 0 rfl) ?_
  refine lv_iload_n hx hb dL_noted_3 rfl (lv_at hl 1 rfl) ?_
  refine lv_iload_n hx hb dL_noted_4 rfl (lv_at hl 2 rfl) ?_
  refine kcallVT (As := [.int x, .int y]) (rest := [.int 0, .ref o]) (Wc := [clP cI cZ cS O k g a d w0 c f z V T n K G L v]) (Ws := [arJ cJ o ww, clP cI cZ cS O k g a d w0 c f z V T n K G L v]) X hZ (k_notedTI l D cI cZ cS cJ hl9 O k g a d w0 c f z V T n K G L v x y hT) (cwV 2 hts gL_noted_X6_noted rfl rfl rfl (by decide +kernel) ⟨Nat.le_of_ble_eq_true rfl, Nat.le_of_ble_eq_true rfl⟩) hK hP hD hS hA [1] rfl (by decide +kernel) 1 6 rfl rfl rfl hl.1 rfl (Nat.le_of_ble_eq_true rfl) dL_noted_5 ⟨Nat.le_of_ble_eq_true rfl, Nat.le_of_ble_eq_true rfl⟩ (fun H locs q9 ce hP hS h1 h2 h3 => ?_)
  refine vx_catch (own := RL) (name := xcI) hown [] ⟨0, 10, 13, 13⟩ [⟨0, 10, 17, 15⟩] (htab.trans rfl) (fun z9 hz9 => absurd hz9 List.not_mem_nil) (by decide) (by decide) (hts (.classLink RL 13 xcI) (by decide +kernel)) (va_Nw.use rfl hZ.1.2.1.1) h1 h2 h3 ?_
  refine lv_astore (lv' := [(4, .ref q9), (0, .ref (O 0)), (1, .int x), (2, .int y), (3, .ref o)]) hx hb dL_noted_13 hl (by decide) rfl (fun ls hl => ?_)
  refine lv_iconst (v := 1) hx hb dL_noted_15 (by decide) ?_
  refine W.widen (k := 1) (n := 6) (by omega) (by omega) ?_
  exact hend () 1 _ _ _ _ trivial rfl hP hD hS dL_noted_16

set_option maxHeartbeats 4000000 in
theorem h_notedTA (l : Launch) (D : va_G) (cI cZ cS cJ : ClassId) (hl9 : l.stackTraces = false) (O k g a d : Nat → Nat) (w0 : Int32) (c : Nat → Nat → Nat) (f : Nat → Option Nat) (z : Nat) (V : Nat → Nat → Nat → Int32) (T : Nat → Int32) (n : Nat) (K G : Nat → Nat → Int32) (L : Nat → Int32) (v : Int32) (o : Nat) (ww : Int64) (r : Nat) (x : Int32) (hr : r < 2147483648) (hT : ¬ inR x 0 2) : CH (U := Unit) l yL_noted wsL_noted ({ frames := 8, cells := 1, slots := 6, locals := 126 }) D (tyL cI cZ cS cJ) [.ref (O 0), .int (nI r), .int x, .ref o] (List.flatten [arJ cJ o ww, clP cI cZ cS O k g a d w0 c f z V T n K G L v]) (fun _ => True) (fun _ => some (.int 2)) (fun u => List.flatten [arJ cJ o ww, clP cI cZ cS O k g a d w0 c f z V T n K G L v]) 1 6 := by
  refine CH_int (cc := cL_noted) (maxL := 5) (rt := .int) (r := fun _ => 2) (by decide) rfl (Nat.le_of_ble_eq_true rfl) (fun _ _ => rfl) ?_
  intro p e s m below meth cd A ls Q X hK hP hD hS hA hl hZ htab hend
  have X : CallFix p m cd cL_noted 5 s ([.ref (O 0), .int (nI r), .int x, .ref o] : List Value).toArray wsL_noted RL := X
  obtain ⟨hx, hb, hml, hown, hts⟩ := id X
  have hl : lv_has ls 5 [(0, .ref (O 0)), (1, .int (nI r)), (2, .int x), (3, .ref o)] := hl
  refine lv_aload_n hx hb dL_noted_0 rfl (lv_at hl 3 rfl) ?_
  refine lv_iconst (v := 0) hx hb dL_noted_1 (by decide) ?_
  refine lv_aload_n hx hb dL_noted_2 rfl (lv_at hl 0 rfl) ?_
  refine lv_iload_n hx hb dL_noted_3 rfl (lv_at hl 1 rfl) ?_
  refine lv_iload_n hx hb dL_noted_4 rfl (lv_at hl 2 rfl) ?_
  refine kcallVT (As := [.int (nI r), .int x]) (rest := [.int 0, .ref o]) (Wc := [clP cI cZ cS O k g a d w0 c f z V T n K G L v]) (Ws := [arJ cJ o ww, clP cI cZ cS O k g a d w0 c f z V T n K G L v]) X hZ (k_notedTA l D cI cZ cS cJ hl9 O k g a d w0 c f z V T n K G L v r x hr hT) (cwV 2 hts gL_noted_X6_noted rfl rfl rfl (by decide +kernel) ⟨Nat.le_of_ble_eq_true rfl, Nat.le_of_ble_eq_true rfl⟩) hK hP hD hS hA [1] rfl (by decide +kernel) 1 6 rfl rfl rfl hl.1 rfl (Nat.le_of_ble_eq_true rfl) dL_noted_5 ⟨Nat.le_of_ble_eq_true rfl, Nat.le_of_ble_eq_true rfl⟩ (fun H locs q9 ce hP hS h1 h2 h3 => ?_)
  refine vx_catch (own := RL) (name := xcA) hown [⟨0, 10, 13, 13⟩] ⟨0, 10, 17, 15⟩ [] (htab.trans rfl) (fun z9 hz9 => by obtain rfl := List.mem_singleton.mp hz9; exact Or.inr ⟨by decide, xcI, hts (.classLink RL 13 xcI) (by decide +kernel), hZ.1.2.2.1⟩) (by decide) (by decide) (hts (.classLink RL 15 xcA) (by decide +kernel)) (va_Nw.use rfl hZ.1.2.1.2.1) h1 h2 h3 ?_
  refine lv_astore (lv' := [(4, .ref q9), (0, .ref (O 0)), (1, .int (nI r)), (2, .int x), (3, .ref o)]) hx hb dL_noted_17 hl (by decide) rfl (fun ls hl => ?_)
  refine lv_iconst (v := 2) hx hb dL_noted_19 (by decide) ?_
  refine W.widen (k := 1) (n := 6) (by omega) (by omega) ?_
  exact hend () 2 _ _ _ _ trivial rfl hP hD hS dL_noted_20

set_option maxHeartbeats 4000000 in
theorem h_countN (l : Launch) (D : va_G) (cI cZ cS cJ : ClassId) (hl9 : l.stackTraces = false) (O k g a d : Nat → Nat) (w0 : Int32) (c : Nat → Nat → Nat) (f : Nat → Option Nat) (z : Nat) (V : Nat → Nat → Nat → Int32) (T : Nat → Int32) (n : Nat) (K G : Nat → Nat → Int32) (L : Nat → Int32) (v : Int32) (o : Nat) (ww : Int64) (w : Nat) (hw : w < 15) : CH (U := Unit) l yL_count wsL_count ({ frames := 8, cells := 1, slots := 6, locals := 125 }) D (tyL cI cZ cS cJ) [.ref (O 0), .int (nI w), .ref o] (List.flatten [arJ cJ o ww, clP cI cZ cS O k g a d w0 c f z V T n K G L v]) (fun _ => True) (fun _ => some (.int 0)) (fun u => List.flatten [arJ cJ o (cntS (V 0) z w).toInt64, clP cI cZ cS O k g a d w0 c f z V T n K G L v]) 1 6 := by
  refine CH_int (cc := cL_count) (maxL := 4) (rt := .int) (r := fun _ => 0) (by decide) rfl (Nat.le_of_ble_eq_true rfl) (fun _ _ => rfl) ?_
  intro p e s m below meth cd A ls Q X hK hP hD hS hA hl hZ htab hend
  have X : CallFix p m cd cL_count 4 s ([.ref (O 0), .int (nI w), .ref o] : List Value).toArray wsL_count RL := X
  obtain ⟨hx, hb, hml, hown, hts⟩ := id X
  have hl : lv_has ls 4 [(0, .ref (O 0)), (1, .int (nI w)), (2, .ref o)] := hl
  refine lv_aload_n hx hb dL_count_0 rfl (lv_at hl 2 rfl) ?_
  refine lv_iconst (v := 0) hx hb dL_count_1 (by decide) ?_
  refine lv_aload_n hx hb dL_count_2 rfl (lv_at hl 0 rfl) ?_
  refine lv_iload_n hx hb dL_count_3 rfl (lv_at hl 1 rfl) ?_
  refine kcallVJ (U := Unit) (As := [.int (nI w)]) (rest := [.int 0, .ref o]) (Wr := [arJ cJ o ww]) (Wc := [clP cI cZ cS O k g a d w0 c f z V T n K G L v]) (Wo := fun u => [clP cI cZ cS O k g a d w0 c f z V T n K G L v]) X (k_count l D cI cZ cS cJ O k g a d w0 c f z V T n K G L v w hw) (cwV 1 hts gL_count_X6_count rfl rfl rfl (by decide +kernel) ⟨Nat.le_of_ble_eq_true rfl, Nat.le_of_ble_eq_true rfl⟩) hK hP hD hS hA 0 6 rfl rfl rfl hl.1 rfl (Nat.le_of_ble_eq_true rfl) dL_count_4 ⟨Nat.le_of_ble_eq_true rfl, Nat.le_of_ble_eq_true rfl⟩ (fun u H locs hu hP hD hS => ?_)
  have hP : va_P D vwCl (List.flatten [arJ cJ o ww, clP cI cZ cS O k g a d w0 c f z V T n K G L v]) _ := hP
  have hD : va_D A (List.flatten [arJ cJ o ww, clP cI cZ cS O k g a d w0 c f z V T n K G L v]) := hD
  refine lv_i2l (v := (cntS (V 0) z w).toInt64) hx hb dL_count_7 rfl ?_
  refine r_last (w := ww) (x := (cntS (V 0) z w).toInt64) (wn := List.flatten [arJ cJ o (cntS (V 0) z w).toInt64, clP cI cZ cS O k g a d w0 c f z V T n K G L v]) hx hb hK hP hD hS 0 3 rfl rfl rfl dL_count_8 (fun H locs hP hD hS => ?_)
  refine lv_goto (tgt := 15) hx hb dL_count_9 (by decide) ?_
  refine lv_iconst (v := 0) hx hb dL_count_15 (by decide) ?_
  refine W.widen (k := 1) (n := 6) (by omega) (by omega) ?_
  exact hend u 0 _ _ _ _ trivial rfl hP hD hS dL_count_16

set_option maxHeartbeats 4000000 in
theorem h_countTA (l : Launch) (D : va_G) (cI cZ cS cJ : ClassId) (hl9 : l.stackTraces = false) (O k g a d : Nat → Nat) (w0 : Int32) (c : Nat → Nat → Nat) (f : Nat → Option Nat) (z : Nat) (V : Nat → Nat → Nat → Int32) (T : Nat → Int32) (n : Nat) (K G : Nat → Nat → Int32) (L : Nat → Int32) (v : Int32) (o : Nat) (ww : Int64) (x : Int32) (hT : ¬ inR x 0 14) : CH (U := Unit) l yL_count wsL_count ({ frames := 8, cells := 1, slots := 6, locals := 125 }) D (tyL cI cZ cS cJ) [.ref (O 0), .int x, .ref o] (List.flatten [arJ cJ o ww, clP cI cZ cS O k g a d w0 c f z V T n K G L v]) (fun _ => True) (fun _ => some (.int 1)) (fun u => List.flatten [arJ cJ o ww, clP cI cZ cS O k g a d w0 c f z V T n K G L v]) 1 6 := by
  refine CH_int (cc := cL_count) (maxL := 4) (rt := .int) (r := fun _ => 1) (by decide) rfl (Nat.le_of_ble_eq_true rfl) (fun _ _ => rfl) ?_
  intro p e s m below meth cd A ls Q X hK hP hD hS hA hl hZ htab hend
  have X : CallFix p m cd cL_count 4 s ([.ref (O 0), .int x, .ref o] : List Value).toArray wsL_count RL := X
  obtain ⟨hx, hb, hml, hown, hts⟩ := id X
  have hl : lv_has ls 4 [(0, .ref (O 0)), (1, .int x), (2, .ref o)] := hl
  refine lv_aload_n hx hb dL_count_0 rfl (lv_at hl 2 rfl) ?_
  refine lv_iconst (v := 0) hx hb dL_count_1 (by decide) ?_
  refine lv_aload_n hx hb dL_count_2 rfl (lv_at hl 0 rfl) ?_
  refine lv_iload_n hx hb dL_count_3 rfl (lv_at hl 1 rfl) ?_
  refine kcallVT (As := [.int x]) (rest := [.int 0, .ref o]) (Wc := [clP cI cZ cS O k g a d w0 c f z V T n K G L v]) (Ws := [arJ cJ o ww, clP cI cZ cS O k g a d w0 c f z V T n K G L v]) X hZ (k_countTA l D cI cZ cS cJ hl9 O k g a d w0 c f z V T n K G L v x hT) (cwV 1 hts gL_count_X6_count rfl rfl rfl (by decide +kernel) ⟨Nat.le_of_ble_eq_true rfl, Nat.le_of_ble_eq_true rfl⟩) hK hP hD hS hA [1] rfl (by decide +kernel) 1 6 rfl rfl rfl hl.1 rfl (Nat.le_of_ble_eq_true rfl) dL_count_4 ⟨Nat.le_of_ble_eq_true rfl, Nat.le_of_ble_eq_true rfl⟩ (fun H locs q9 ce hP hS h1 h2 h3 => ?_)
  refine vx_catch (own := RL) (name := xcA) hown [] ⟨0, 9, 12, 15⟩ [] (htab.trans rfl) (fun z9 hz9 => absurd hz9 List.not_mem_nil) (by decide) (by decide) (hts (.classLink RL 15 xcA) (by decide +kernel)) (va_Nw.use rfl hZ.1.2.1.2.1) h1 h2 h3 ?_
  refine lv_astore_n (lv' := [(3, .ref q9), (0, .ref (O 0)), (1, .int x), (2, .ref o)]) hx hb dL_count_12 rfl hl (by decide) rfl (fun ls hl => ?_)
  refine lv_iconst (v := 1) hx hb dL_count_13 (by decide) ?_
  refine W.widen (k := 1) (n := 6) (by omega) (by omega) ?_
  exact hend () 1 _ _ _ _ trivial rfl hP hD hS dL_count_14

set_option maxHeartbeats 4000000 in
theorem h_whyN (l : Launch) (D : va_G) (cI cZ cS cJ : ClassId) (hl9 : l.stackTraces = false) (O k g a d : Nat → Nat) (w0 : Int32) (c : Nat → Nat → Nat) (f : Nat → Option Nat) (z : Nat) (V : Nat → Nat → Nat → Int32) (T : Nat → Int32) (n : Nat) (K G : Nat → Nat → Int32) (L : Nat → Int32) (v : Int32) (o : Nat) (ww : Int64) (b : Nat) (w : Nat) (hb8 : b < 8) (h7 : 4 ≤ w → b < 7) (hw : w < 6) : CH (U := Unit) l yL_why wsL_why ({ frames := 8, cells := 1, slots := 6, locals := 126 }) D (tyL cI cZ cS cJ) [.ref (O 0), .int (nI b), .int (nI w), .ref o] (List.flatten [arJ cJ o ww, clP cI cZ cS O k g a d w0 c f z V T n K G L v]) (fun _ => True) (fun _ => some (.int 0)) (fun u => List.flatten [arJ cJ o (whyS (V 0) b w).toInt64, clP cI cZ cS O k g a d w0 c f z V T n K G L v]) 1 6 := by
  refine CH_int (cc := cL_why) (maxL := 5) (rt := .int) (r := fun _ => 0) (by decide) rfl (Nat.le_of_ble_eq_true rfl) (fun _ _ => rfl) ?_
  intro p e s m below meth cd A ls Q X hK hP hD hS hA hl hZ htab hend
  have X : CallFix p m cd cL_why 5 s ([.ref (O 0), .int (nI b), .int (nI w), .ref o] : List Value).toArray wsL_why RL := X
  obtain ⟨hx, hb, hml, hown, hts⟩ := id X
  have hl : lv_has ls 5 [(0, .ref (O 0)), (1, .int (nI b)), (2, .int (nI w)), (3, .ref o)] := hl
  refine lv_aload_n hx hb dL_why_0 rfl (lv_at hl 3 rfl) ?_
  refine lv_iconst (v := 0) hx hb dL_why_1 (by decide) ?_
  refine lv_aload_n hx hb dL_why_2 rfl (lv_at hl 0 rfl) ?_
  refine lv_iload_n hx hb dL_why_3 rfl (lv_at hl 1 rfl) ?_
  refine lv_iload_n hx hb dL_why_4 rfl (lv_at hl 2 rfl) ?_
  refine kcallVJ (U := Unit) (As := [.int (nI b), .int (nI w)]) (rest := [.int 0, .ref o]) (Wr := [arJ cJ o ww]) (Wc := [clP cI cZ cS O k g a d w0 c f z V T n K G L v]) (Wo := fun u => [clP cI cZ cS O k g a d w0 c f z V T n K G L v]) X (k_why l D cI cZ cS cJ O k g a d w0 c f z V T n K G L v b w hb8 h7 hw) (cwV 2 hts gL_why_X6_why rfl rfl rfl (by decide +kernel) ⟨Nat.le_of_ble_eq_true rfl, Nat.le_of_ble_eq_true rfl⟩) hK hP hD hS hA 0 6 rfl rfl rfl hl.1 rfl (Nat.le_of_ble_eq_true rfl) dL_why_5 ⟨Nat.le_of_ble_eq_true rfl, Nat.le_of_ble_eq_true rfl⟩ (fun u H locs hu hP hD hS => ?_)
  have hP : va_P D vwCl (List.flatten [arJ cJ o ww, clP cI cZ cS O k g a d w0 c f z V T n K G L v]) _ := hP
  have hD : va_D A (List.flatten [arJ cJ o ww, clP cI cZ cS O k g a d w0 c f z V T n K G L v]) := hD
  refine lv_i2l (v := (whyS (V 0) b w).toInt64) hx hb dL_why_8 rfl ?_
  refine r_last (w := ww) (x := (whyS (V 0) b w).toInt64) (wn := List.flatten [arJ cJ o (whyS (V 0) b w).toInt64, clP cI cZ cS O k g a d w0 c f z V T n K G L v]) hx hb hK hP hD hS 0 3 rfl rfl rfl dL_why_9 (fun H locs hP hD hS => ?_)
  refine lv_goto (tgt := 21) hx hb dL_why_10 (by decide) ?_
  refine lv_iconst (v := 0) hx hb dL_why_21 (by decide) ?_
  refine W.widen (k := 1) (n := 6) (by omega) (by omega) ?_
  exact hend u 0 _ _ _ _ trivial rfl hP hD hS dL_why_22

set_option maxHeartbeats 4000000 in
theorem h_whyTI (l : Launch) (D : va_G) (cI cZ cS cJ : ClassId) (hl9 : l.stackTraces = false) (O k g a d : Nat → Nat) (w0 : Int32) (c : Nat → Nat → Nat) (f : Nat → Option Nat) (z : Nat) (V : Nat → Nat → Nat → Int32) (T : Nat → Int32) (n : Nat) (K G : Nat → Nat → Int32) (L : Nat → Int32) (v : Int32) (o : Nat) (ww : Int64) (x : Int32) (y : Int32) (hT : ¬ isB x) : CH (U := Unit) l yL_why wsL_why ({ frames := 8, cells := 1, slots := 6, locals := 126 }) D (tyL cI cZ cS cJ) [.ref (O 0), .int x, .int y, .ref o] (List.flatten [arJ cJ o ww, clP cI cZ cS O k g a d w0 c f z V T n K G L v]) (fun _ => True) (fun _ => some (.int 1)) (fun u => List.flatten [arJ cJ o ww, clP cI cZ cS O k g a d w0 c f z V T n K G L v]) 1 6 := by
  refine CH_int (cc := cL_why) (maxL := 5) (rt := .int) (r := fun _ => 1) (by decide) rfl (Nat.le_of_ble_eq_true rfl) (fun _ _ => rfl) ?_
  intro p e s m below meth cd A ls Q X hK hP hD hS hA hl hZ htab hend
  have X : CallFix p m cd cL_why 5 s ([.ref (O 0), .int x, .int y, .ref o] : List Value).toArray wsL_why RL := X
  obtain ⟨hx, hb, hml, hown, hts⟩ := id X
  have hl : lv_has ls 5 [(0, .ref (O 0)), (1, .int x), (2, .int y), (3, .ref o)] := hl
  refine lv_aload_n hx hb dL_why_0 rfl (lv_at hl 3 rfl) ?_
  refine lv_iconst (v := 0) hx hb dL_why_1 (by decide) ?_
  refine lv_aload_n hx hb dL_why_2 rfl (lv_at hl 0 rfl) ?_
  refine lv_iload_n hx hb dL_why_3 rfl (lv_at hl 1 rfl) ?_
  refine lv_iload_n hx hb dL_why_4 rfl (lv_at hl 2 rfl) ?_
  refine kcallVT (As := [.int x, .int y]) (rest := [.int 0, .ref o]) (Wc := [clP cI cZ cS O k g a d w0 c f z V T n K G L v]) (Ws := [arJ cJ o ww, clP cI cZ cS O k g a d w0 c f z V T n K G L v]) X hZ (k_whyTI l D cI cZ cS cJ hl9 O k g a d w0 c f z V T n K G L v x y hT) (cwV 2 hts gL_why_X6_why rfl rfl rfl (by decide +kernel) ⟨Nat.le_of_ble_eq_true rfl, Nat.le_of_ble_eq_true rfl⟩) hK hP hD hS hA [1] rfl (by decide +kernel) 1 6 rfl rfl rfl hl.1 rfl (Nat.le_of_ble_eq_true rfl) dL_why_5 ⟨Nat.le_of_ble_eq_true rfl, Nat.le_of_ble_eq_true rfl⟩ (fun H locs q9 ce hP hS h1 h2 h3 => ?_)
  refine vx_catch (own := RL) (name := xcI) hown [] ⟨0, 10, 13, 13⟩ [⟨0, 10, 17, 15⟩] (htab.trans rfl) (fun z9 hz9 => absurd hz9 List.not_mem_nil) (by decide) (by decide) (hts (.classLink RL 13 xcI) (by decide +kernel)) (va_Nw.use rfl hZ.1.2.1.1) h1 h2 h3 ?_
  refine lv_astore (lv' := [(4, .ref q9), (0, .ref (O 0)), (1, .int x), (2, .int y), (3, .ref o)]) hx hb dL_why_13 hl (by decide) rfl (fun ls hl => ?_)
  refine lv_iconst (v := 1) hx hb dL_why_15 (by decide) ?_
  refine W.widen (k := 1) (n := 6) (by omega) (by omega) ?_
  exact hend () 1 _ _ _ _ trivial rfl hP hD hS dL_why_16

set_option maxHeartbeats 4000000 in
theorem h_whyTIR4 (l : Launch) (D : va_G) (cI cZ cS cJ : ClassId) (hl9 : l.stackTraces = false) (O k g a d : Nat → Nat) (w0 : Int32) (c : Nat → Nat → Nat) (f : Nat → Option Nat) (z : Nat) (V : Nat → Nat → Nat → Int32) (T : Nat → Int32) (n : Nat) (K G : Nat → Nat → Int32) (L : Nat → Int32) (v : Int32) (o : Nat) (ww : Int64)   : CH (U := Unit) l yL_why wsL_why ({ frames := 8, cells := 1, slots := 6, locals := 126 }) D (tyL cI cZ cS cJ) [.ref (O 0), .int 7, .int 4, .ref o] (List.flatten [arJ cJ o ww, clP cI cZ cS O k g a d w0 c f z V T n K G L v]) (fun _ => True) (fun _ => some (.int 1)) (fun u => List.flatten [arJ cJ o ww, clP cI cZ cS O k g a d w0 c f z V T n K G L v]) 1 6 := by
  refine CH_int (cc := cL_why) (maxL := 5) (rt := .int) (r := fun _ => 1) (by decide) rfl (Nat.le_of_ble_eq_true rfl) (fun _ _ => rfl) ?_
  intro p e s m below meth cd A ls Q X hK hP hD hS hA hl hZ htab hend
  have X : CallFix p m cd cL_why 5 s ([.ref (O 0), .int 7, .int 4, .ref o] : List Value).toArray wsL_why RL := X
  obtain ⟨hx, hb, hml, hown, hts⟩ := id X
  have hl : lv_has ls 5 [(0, .ref (O 0)), (1, .int 7), (2, .int 4), (3, .ref o)] := hl
  refine lv_aload_n hx hb dL_why_0 rfl (lv_at hl 3 rfl) ?_
  refine lv_iconst (v := 0) hx hb dL_why_1 (by decide) ?_
  refine lv_aload_n hx hb dL_why_2 rfl (lv_at hl 0 rfl) ?_
  refine lv_iload_n hx hb dL_why_3 rfl (lv_at hl 1 rfl) ?_
  refine lv_iload_n hx hb dL_why_4 rfl (lv_at hl 2 rfl) ?_
  refine kcallVT (As := [.int 7, .int 4]) (rest := [.int 0, .ref o]) (Wc := [clP cI cZ cS O k g a d w0 c f z V T n K G L v]) (Ws := [arJ cJ o ww, clP cI cZ cS O k g a d w0 c f z V T n K G L v]) X hZ (k_whyTIR4 l D cI cZ cS cJ hl9 O k g a d w0 c f z V T n K G L v  ) (cwV 2 hts gL_why_X6_why rfl rfl rfl (by decide +kernel) ⟨Nat.le_of_ble_eq_true rfl, Nat.le_of_ble_eq_true rfl⟩) hK hP hD hS hA [1] rfl (by decide +kernel) 1 6 rfl rfl rfl hl.1 rfl (Nat.le_of_ble_eq_true rfl) dL_why_5 ⟨Nat.le_of_ble_eq_true rfl, Nat.le_of_ble_eq_true rfl⟩ (fun H locs q9 ce hP hS h1 h2 h3 => ?_)
  refine vx_catch (own := RL) (name := xcI) hown [] ⟨0, 10, 13, 13⟩ [⟨0, 10, 17, 15⟩] (htab.trans rfl) (fun z9 hz9 => absurd hz9 List.not_mem_nil) (by decide) (by decide) (hts (.classLink RL 13 xcI) (by decide +kernel)) (va_Nw.use rfl hZ.1.2.1.1) h1 h2 h3 ?_
  refine lv_astore (lv' := [(4, .ref q9), (0, .ref (O 0)), (1, .int 7), (2, .int 4), (3, .ref o)]) hx hb dL_why_13 hl (by decide) rfl (fun ls hl => ?_)
  refine lv_iconst (v := 1) hx hb dL_why_15 (by decide) ?_
  refine W.widen (k := 1) (n := 6) (by omega) (by omega) ?_
  exact hend () 1 _ _ _ _ trivial rfl hP hD hS dL_why_16

set_option maxHeartbeats 4000000 in
theorem h_whyTIR5 (l : Launch) (D : va_G) (cI cZ cS cJ : ClassId) (hl9 : l.stackTraces = false) (O k g a d : Nat → Nat) (w0 : Int32) (c : Nat → Nat → Nat) (f : Nat → Option Nat) (z : Nat) (V : Nat → Nat → Nat → Int32) (T : Nat → Int32) (n : Nat) (K G : Nat → Nat → Int32) (L : Nat → Int32) (v : Int32) (o : Nat) (ww : Int64)   : CH (U := Unit) l yL_why wsL_why ({ frames := 8, cells := 1, slots := 6, locals := 126 }) D (tyL cI cZ cS cJ) [.ref (O 0), .int 7, .int 5, .ref o] (List.flatten [arJ cJ o ww, clP cI cZ cS O k g a d w0 c f z V T n K G L v]) (fun _ => True) (fun _ => some (.int 1)) (fun u => List.flatten [arJ cJ o ww, clP cI cZ cS O k g a d w0 c f z V T n K G L v]) 1 6 := by
  refine CH_int (cc := cL_why) (maxL := 5) (rt := .int) (r := fun _ => 1) (by decide) rfl (Nat.le_of_ble_eq_true rfl) (fun _ _ => rfl) ?_
  intro p e s m below meth cd A ls Q X hK hP hD hS hA hl hZ htab hend
  have X : CallFix p m cd cL_why 5 s ([.ref (O 0), .int 7, .int 5, .ref o] : List Value).toArray wsL_why RL := X
  obtain ⟨hx, hb, hml, hown, hts⟩ := id X
  have hl : lv_has ls 5 [(0, .ref (O 0)), (1, .int 7), (2, .int 5), (3, .ref o)] := hl
  refine lv_aload_n hx hb dL_why_0 rfl (lv_at hl 3 rfl) ?_
  refine lv_iconst (v := 0) hx hb dL_why_1 (by decide) ?_
  refine lv_aload_n hx hb dL_why_2 rfl (lv_at hl 0 rfl) ?_
  refine lv_iload_n hx hb dL_why_3 rfl (lv_at hl 1 rfl) ?_
  refine lv_iload_n hx hb dL_why_4 rfl (lv_at hl 2 rfl) ?_
  refine kcallVT (As := [.int 7, .int 5]) (rest := [.int 0, .ref o]) (Wc := [clP cI cZ cS O k g a d w0 c f z V T n K G L v]) (Ws := [arJ cJ o ww, clP cI cZ cS O k g a d w0 c f z V T n K G L v]) X hZ (k_whyTIR5 l D cI cZ cS cJ hl9 O k g a d w0 c f z V T n K G L v  ) (cwV 2 hts gL_why_X6_why rfl rfl rfl (by decide +kernel) ⟨Nat.le_of_ble_eq_true rfl, Nat.le_of_ble_eq_true rfl⟩) hK hP hD hS hA [1] rfl (by decide +kernel) 1 6 rfl rfl rfl hl.1 rfl (Nat.le_of_ble_eq_true rfl) dL_why_5 ⟨Nat.le_of_ble_eq_true rfl, Nat.le_of_ble_eq_true rfl⟩ (fun H locs q9 ce hP hS h1 h2 h3 => ?_)
  refine vx_catch (own := RL) (name := xcI) hown [] ⟨0, 10, 13, 13⟩ [⟨0, 10, 17, 15⟩] (htab.trans rfl) (fun z9 hz9 => absurd hz9 List.not_mem_nil) (by decide) (by decide) (hts (.classLink RL 13 xcI) (by decide +kernel)) (va_Nw.use rfl hZ.1.2.1.1) h1 h2 h3 ?_
  refine lv_astore (lv' := [(4, .ref q9), (0, .ref (O 0)), (1, .int 7), (2, .int 5), (3, .ref o)]) hx hb dL_why_13 hl (by decide) rfl (fun ls hl => ?_)
  refine lv_iconst (v := 1) hx hb dL_why_15 (by decide) ?_
  refine W.widen (k := 1) (n := 6) (by omega) (by omega) ?_
  exact hend () 1 _ _ _ _ trivial rfl hP hD hS dL_why_16

set_option maxHeartbeats 4000000 in
theorem h_whyTA (l : Launch) (D : va_G) (cI cZ cS cJ : ClassId) (hl9 : l.stackTraces = false) (O k g a d : Nat → Nat) (w0 : Int32) (c : Nat → Nat → Nat) (f : Nat → Option Nat) (z : Nat) (V : Nat → Nat → Nat → Int32) (T : Nat → Int32) (n : Nat) (K G : Nat → Nat → Int32) (L : Nat → Int32) (v : Int32) (o : Nat) (ww : Int64) (b : Nat) (x : Int32) (hb8 : b < 8) (hT : ¬ inR x 0 5) : CH (U := Unit) l yL_why wsL_why ({ frames := 8, cells := 1, slots := 6, locals := 126 }) D (tyL cI cZ cS cJ) [.ref (O 0), .int (nI b), .int x, .ref o] (List.flatten [arJ cJ o ww, clP cI cZ cS O k g a d w0 c f z V T n K G L v]) (fun _ => True) (fun _ => some (.int 2)) (fun u => List.flatten [arJ cJ o ww, clP cI cZ cS O k g a d w0 c f z V T n K G L v]) 1 6 := by
  refine CH_int (cc := cL_why) (maxL := 5) (rt := .int) (r := fun _ => 2) (by decide) rfl (Nat.le_of_ble_eq_true rfl) (fun _ _ => rfl) ?_
  intro p e s m below meth cd A ls Q X hK hP hD hS hA hl hZ htab hend
  have X : CallFix p m cd cL_why 5 s ([.ref (O 0), .int (nI b), .int x, .ref o] : List Value).toArray wsL_why RL := X
  obtain ⟨hx, hb, hml, hown, hts⟩ := id X
  have hl : lv_has ls 5 [(0, .ref (O 0)), (1, .int (nI b)), (2, .int x), (3, .ref o)] := hl
  refine lv_aload_n hx hb dL_why_0 rfl (lv_at hl 3 rfl) ?_
  refine lv_iconst (v := 0) hx hb dL_why_1 (by decide) ?_
  refine lv_aload_n hx hb dL_why_2 rfl (lv_at hl 0 rfl) ?_
  refine lv_iload_n hx hb dL_why_3 rfl (lv_at hl 1 rfl) ?_
  refine lv_iload_n hx hb dL_why_4 rfl (lv_at hl 2 rfl) ?_
  refine kcallVT (As := [.int (nI b), .int x]) (rest := [.int 0, .ref o]) (Wc := [clP cI cZ cS O k g a d w0 c f z V T n K G L v]) (Ws := [arJ cJ o ww, clP cI cZ cS O k g a d w0 c f z V T n K G L v]) X hZ (k_whyTA l D cI cZ cS cJ hl9 O k g a d w0 c f z V T n K G L v b x hb8 hT) (cwV 2 hts gL_why_X6_why rfl rfl rfl (by decide +kernel) ⟨Nat.le_of_ble_eq_true rfl, Nat.le_of_ble_eq_true rfl⟩) hK hP hD hS hA [1] rfl (by decide +kernel) 1 6 rfl rfl rfl hl.1 rfl (Nat.le_of_ble_eq_true rfl) dL_why_5 ⟨Nat.le_of_ble_eq_true rfl, Nat.le_of_ble_eq_true rfl⟩ (fun H locs q9 ce hP hS h1 h2 h3 => ?_)
  refine vx_catch (own := RL) (name := xcA) hown [⟨0, 10, 13, 13⟩] ⟨0, 10, 17, 15⟩ [] (htab.trans rfl) (fun z9 hz9 => by obtain rfl := List.mem_singleton.mp hz9; exact Or.inr ⟨by decide, xcI, hts (.classLink RL 13 xcI) (by decide +kernel), hZ.1.2.2.1⟩) (by decide) (by decide) (hts (.classLink RL 15 xcA) (by decide +kernel)) (va_Nw.use rfl hZ.1.2.1.2.1) h1 h2 h3 ?_
  refine lv_astore (lv' := [(4, .ref q9), (0, .ref (O 0)), (1, .int (nI b)), (2, .int x), (3, .ref o)]) hx hb dL_why_17 hl (by decide) rfl (fun ls hl => ?_)
  refine lv_iconst (v := 2) hx hb dL_why_19 (by decide) ?_
  refine W.widen (k := 1) (n := 6) (by omega) (by omega) ?_
  exact hend () 2 _ _ _ _ trivial rfl hP hD hS dL_why_20

set_option maxHeartbeats 4000000 in
theorem h_stoppedN (l : Launch) (D : va_G) (cI cZ cS cJ : ClassId) (hl9 : l.stackTraces = false) (O k g a d : Nat → Nat) (w0 : Int32) (c : Nat → Nat → Nat) (f : Nat → Option Nat) (z : Nat) (V : Nat → Nat → Nat → Int32) (T : Nat → Int32) (n : Nat) (K G : Nat → Nat → Int32) (L : Nat → Int32) (v : Int32) (o : Nat) (ww : Int64) (w : Nat) (hw : w < 2) : CH (U := Unit) l yL_stopped wsL_stopped ({ frames := 8, cells := 1, slots := 6, locals := 125 }) D (tyL cI cZ cS cJ) [.ref (O 0), .int (nI w), .ref o] (List.flatten [arJ cJ o ww, clP cI cZ cS O k g a d w0 c f z V T n K G L v]) (fun _ => True) (fun _ => some (.int 0)) (fun u => List.flatten [arJ cJ o (stoS (V 0) w).toInt64, clP cI cZ cS O k g a d w0 c f z V T n K G L v]) 1 6 := by
  refine CH_int (cc := cL_stopped) (maxL := 4) (rt := .int) (r := fun _ => 0) (by decide) rfl (Nat.le_of_ble_eq_true rfl) (fun _ _ => rfl) ?_
  intro p e s m below meth cd A ls Q X hK hP hD hS hA hl hZ htab hend
  have X : CallFix p m cd cL_stopped 4 s ([.ref (O 0), .int (nI w), .ref o] : List Value).toArray wsL_stopped RL := X
  obtain ⟨hx, hb, hml, hown, hts⟩ := id X
  have hl : lv_has ls 4 [(0, .ref (O 0)), (1, .int (nI w)), (2, .ref o)] := hl
  refine lv_aload_n hx hb dL_stopped_0 rfl (lv_at hl 2 rfl) ?_
  refine lv_iconst (v := 0) hx hb dL_stopped_1 (by decide) ?_
  refine lv_aload_n hx hb dL_stopped_2 rfl (lv_at hl 0 rfl) ?_
  refine lv_iload_n hx hb dL_stopped_3 rfl (lv_at hl 1 rfl) ?_
  refine kcallVJ (U := Unit) (As := [.int (nI w)]) (rest := [.int 0, .ref o]) (Wr := [arJ cJ o ww]) (Wc := [clP cI cZ cS O k g a d w0 c f z V T n K G L v]) (Wo := fun u => [clP cI cZ cS O k g a d w0 c f z V T n K G L v]) X (k_stopped l D cI cZ cS cJ O k g a d w0 c f z V T n K G L v w hw) (cwV 1 hts gL_stopped_X6_stopped rfl rfl rfl (by decide +kernel) ⟨Nat.le_of_ble_eq_true rfl, Nat.le_of_ble_eq_true rfl⟩) hK hP hD hS hA 0 6 rfl rfl rfl hl.1 rfl (Nat.le_of_ble_eq_true rfl) dL_stopped_4 ⟨Nat.le_of_ble_eq_true rfl, Nat.le_of_ble_eq_true rfl⟩ (fun u H locs hu hP hD hS => ?_)
  have hP : va_P D vwCl (List.flatten [arJ cJ o ww, clP cI cZ cS O k g a d w0 c f z V T n K G L v]) _ := hP
  have hD : va_D A (List.flatten [arJ cJ o ww, clP cI cZ cS O k g a d w0 c f z V T n K G L v]) := hD
  refine lv_i2l (v := (stoS (V 0) w).toInt64) hx hb dL_stopped_7 rfl ?_
  refine r_last (w := ww) (x := (stoS (V 0) w).toInt64) (wn := List.flatten [arJ cJ o (stoS (V 0) w).toInt64, clP cI cZ cS O k g a d w0 c f z V T n K G L v]) hx hb hK hP hD hS 0 3 rfl rfl rfl dL_stopped_8 (fun H locs hP hD hS => ?_)
  refine lv_goto (tgt := 15) hx hb dL_stopped_9 (by decide) ?_
  refine lv_iconst (v := 0) hx hb dL_stopped_15 (by decide) ?_
  refine W.widen (k := 1) (n := 6) (by omega) (by omega) ?_
  exact hend u 0 _ _ _ _ trivial rfl hP hD hS dL_stopped_16

set_option maxHeartbeats 4000000 in
theorem h_stoppedTA (l : Launch) (D : va_G) (cI cZ cS cJ : ClassId) (hl9 : l.stackTraces = false) (O k g a d : Nat → Nat) (w0 : Int32) (c : Nat → Nat → Nat) (f : Nat → Option Nat) (z : Nat) (V : Nat → Nat → Nat → Int32) (T : Nat → Int32) (n : Nat) (K G : Nat → Nat → Int32) (L : Nat → Int32) (v : Int32) (o : Nat) (ww : Int64) (x : Int32) (hT : ¬ inR x 0 1) : CH (U := Unit) l yL_stopped wsL_stopped ({ frames := 8, cells := 1, slots := 6, locals := 125 }) D (tyL cI cZ cS cJ) [.ref (O 0), .int x, .ref o] (List.flatten [arJ cJ o ww, clP cI cZ cS O k g a d w0 c f z V T n K G L v]) (fun _ => True) (fun _ => some (.int 1)) (fun u => List.flatten [arJ cJ o ww, clP cI cZ cS O k g a d w0 c f z V T n K G L v]) 1 6 := by
  refine CH_int (cc := cL_stopped) (maxL := 4) (rt := .int) (r := fun _ => 1) (by decide) rfl (Nat.le_of_ble_eq_true rfl) (fun _ _ => rfl) ?_
  intro p e s m below meth cd A ls Q X hK hP hD hS hA hl hZ htab hend
  have X : CallFix p m cd cL_stopped 4 s ([.ref (O 0), .int x, .ref o] : List Value).toArray wsL_stopped RL := X
  obtain ⟨hx, hb, hml, hown, hts⟩ := id X
  have hl : lv_has ls 4 [(0, .ref (O 0)), (1, .int x), (2, .ref o)] := hl
  refine lv_aload_n hx hb dL_stopped_0 rfl (lv_at hl 2 rfl) ?_
  refine lv_iconst (v := 0) hx hb dL_stopped_1 (by decide) ?_
  refine lv_aload_n hx hb dL_stopped_2 rfl (lv_at hl 0 rfl) ?_
  refine lv_iload_n hx hb dL_stopped_3 rfl (lv_at hl 1 rfl) ?_
  refine kcallVT (As := [.int x]) (rest := [.int 0, .ref o]) (Wc := [clP cI cZ cS O k g a d w0 c f z V T n K G L v]) (Ws := [arJ cJ o ww, clP cI cZ cS O k g a d w0 c f z V T n K G L v]) X hZ (k_stoppedTA l D cI cZ cS cJ hl9 O k g a d w0 c f z V T n K G L v x hT) (cwV 1 hts gL_stopped_X6_stopped rfl rfl rfl (by decide +kernel) ⟨Nat.le_of_ble_eq_true rfl, Nat.le_of_ble_eq_true rfl⟩) hK hP hD hS hA [1] rfl (by decide +kernel) 1 6 rfl rfl rfl hl.1 rfl (Nat.le_of_ble_eq_true rfl) dL_stopped_4 ⟨Nat.le_of_ble_eq_true rfl, Nat.le_of_ble_eq_true rfl⟩ (fun H locs q9 ce hP hS h1 h2 h3 => ?_)
  refine vx_catch (own := RL) (name := xcA) hown [] ⟨0, 9, 12, 15⟩ [] (htab.trans rfl) (fun z9 hz9 => absurd hz9 List.not_mem_nil) (by decide) (by decide) (hts (.classLink RL 15 xcA) (by decide +kernel)) (va_Nw.use rfl hZ.1.2.1.2.1) h1 h2 h3 ?_
  refine lv_astore_n (lv' := [(3, .ref q9), (0, .ref (O 0)), (1, .int x), (2, .ref o)]) hx hb dL_stopped_12 rfl hl (by decide) rfl (fun ls hl => ?_)
  refine lv_iconst (v := 1) hx hb dL_stopped_13 (by decide) ?_
  refine W.widen (k := 1) (n := 6) (by omega) (by omega) ?_
  exact hend () 1 _ _ _ _ trivial rfl hP hD hS dL_stopped_14

set_option maxHeartbeats 4000000 in
theorem h_ifDroppedN (l : Launch) (D : va_G) (cI cZ cS cJ : ClassId) (hl9 : l.stackTraces = false) (O k g a d : Nat → Nat) (w0 : Int32) (c : Nat → Nat → Nat) (f : Nat → Option Nat) (z : Nat) (V : Nat → Nat → Nat → Int32) (T : Nat → Int32) (n : Nat) (K G : Nat → Nat → Int32) (L : Nat → Int32) (v : Int32) (o : Nat) (ww : Int64) (b : Nat) (w : Nat) (hO : OK (V 0)) (hb8 : b < 8) (hw : w < 3) : CH (U := Unit) l yL_ifDropped wsL_ifDropped ({ frames := 8, cells := 1, slots := 6, locals := 152 }) D (tyL cI cZ cS cJ) [.ref (O 0), .int (nI b), .int (nI w), .ref o] (List.flatten [arJ cJ o ww, clP cI cZ cS O k g a d w0 c f z V T n K G L v]) (fun _ => True) (fun _ => some (.int 0)) (fun u => List.flatten [arJ cJ o (drpS (V 0) b w).toInt64, clP cI cZ cS O k g a d w0 c f z V T n (drpK (V 0) K b) G L v]) 1 6 := by
  refine CH_int (cc := cL_ifDropped) (maxL := 5) (rt := .int) (r := fun _ => 0) (by decide) rfl (Nat.le_of_ble_eq_true rfl) (fun _ _ => rfl) ?_
  intro p e s m below meth cd A ls Q X hK hP hD hS hA hl hZ htab hend
  have X : CallFix p m cd cL_ifDropped 5 s ([.ref (O 0), .int (nI b), .int (nI w), .ref o] : List Value).toArray wsL_ifDropped RL := X
  obtain ⟨hx, hb, hml, hown, hts⟩ := id X
  have hl : lv_has ls 5 [(0, .ref (O 0)), (1, .int (nI b)), (2, .int (nI w)), (3, .ref o)] := hl
  refine lv_aload_n hx hb dL_ifDropped_0 rfl (lv_at hl 3 rfl) ?_
  refine lv_iconst (v := 0) hx hb dL_ifDropped_1 (by decide) ?_
  refine lv_aload_n hx hb dL_ifDropped_2 rfl (lv_at hl 0 rfl) ?_
  refine lv_iload_n hx hb dL_ifDropped_3 rfl (lv_at hl 1 rfl) ?_
  refine lv_iload_n hx hb dL_ifDropped_4 rfl (lv_at hl 2 rfl) ?_
  refine kcallVJ (U := Unit) (As := [.int (nI b), .int (nI w)]) (rest := [.int 0, .ref o]) (Wr := [arJ cJ o ww]) (Wc := [clP cI cZ cS O k g a d w0 c f z V T n K G L v]) (Wo := fun u => [clP cI cZ cS O k g a d w0 c f z V T n (drpK (V 0) K b) G L v]) X (k_ifDropped l D cI cZ cS cJ O k g a d w0 c f z V T n K G L v b w hO hb8 hw) (cwV 2 hts gL_ifDropped_X6_ifDropped rfl rfl rfl (by decide +kernel) ⟨Nat.le_of_ble_eq_true rfl, Nat.le_of_ble_eq_true rfl⟩) hK hP hD hS hA 0 6 rfl rfl rfl hl.1 rfl (Nat.le_of_ble_eq_true rfl) dL_ifDropped_5 ⟨Nat.le_of_ble_eq_true rfl, Nat.le_of_ble_eq_true rfl⟩ (fun u H locs hu hP hD hS => ?_)
  have hP : va_P D vwCl (List.flatten [arJ cJ o ww, clP cI cZ cS O k g a d w0 c f z V T n (drpK (V 0) K b) G L v]) _ := hP
  have hD : va_D A (List.flatten [arJ cJ o ww, clP cI cZ cS O k g a d w0 c f z V T n (drpK (V 0) K b) G L v]) := hD
  refine lv_i2l (v := (drpS (V 0) b w).toInt64) hx hb dL_ifDropped_8 rfl ?_
  refine r_last (w := ww) (x := (drpS (V 0) b w).toInt64) (wn := List.flatten [arJ cJ o (drpS (V 0) b w).toInt64, clP cI cZ cS O k g a d w0 c f z V T n (drpK (V 0) K b) G L v]) hx hb hK hP hD hS 0 3 rfl rfl rfl dL_ifDropped_9 (fun H locs hP hD hS => ?_)
  refine lv_goto (tgt := 21) hx hb dL_ifDropped_10 (by decide) ?_
  refine lv_iconst (v := 0) hx hb dL_ifDropped_21 (by decide) ?_
  refine W.widen (k := 1) (n := 6) (by omega) (by omega) ?_
  exact hend u 0 _ _ _ _ trivial rfl hP hD hS dL_ifDropped_22

set_option maxHeartbeats 4000000 in
theorem h_ifDroppedTI (l : Launch) (D : va_G) (cI cZ cS cJ : ClassId) (hl9 : l.stackTraces = false) (O k g a d : Nat → Nat) (w0 : Int32) (c : Nat → Nat → Nat) (f : Nat → Option Nat) (z : Nat) (V : Nat → Nat → Nat → Int32) (T : Nat → Int32) (n : Nat) (K G : Nat → Nat → Int32) (L : Nat → Int32) (v : Int32) (o : Nat) (ww : Int64) (x : Int32) (y : Int32) (hT : ¬ isB x) : CH (U := Unit) l yL_ifDropped wsL_ifDropped ({ frames := 8, cells := 1, slots := 6, locals := 152 }) D (tyL cI cZ cS cJ) [.ref (O 0), .int x, .int y, .ref o] (List.flatten [arJ cJ o ww, clP cI cZ cS O k g a d w0 c f z V T n K G L v]) (fun _ => True) (fun _ => some (.int 1)) (fun u => List.flatten [arJ cJ o ww, clP cI cZ cS O k g a d w0 c f z V T n K G L v]) 1 6 := by
  refine CH_int (cc := cL_ifDropped) (maxL := 5) (rt := .int) (r := fun _ => 1) (by decide) rfl (Nat.le_of_ble_eq_true rfl) (fun _ _ => rfl) ?_
  intro p e s m below meth cd A ls Q X hK hP hD hS hA hl hZ htab hend
  have X : CallFix p m cd cL_ifDropped 5 s ([.ref (O 0), .int x, .int y, .ref o] : List Value).toArray wsL_ifDropped RL := X
  obtain ⟨hx, hb, hml, hown, hts⟩ := id X
  have hl : lv_has ls 5 [(0, .ref (O 0)), (1, .int x), (2, .int y), (3, .ref o)] := hl
  refine lv_aload_n hx hb dL_ifDropped_0 rfl (lv_at hl 3 rfl) ?_
  refine lv_iconst (v := 0) hx hb dL_ifDropped_1 (by decide) ?_
  refine lv_aload_n hx hb dL_ifDropped_2 rfl (lv_at hl 0 rfl) ?_
  refine lv_iload_n hx hb dL_ifDropped_3 rfl (lv_at hl 1 rfl) ?_
  refine lv_iload_n hx hb dL_ifDropped_4 rfl (lv_at hl 2 rfl) ?_
  refine kcallVT (As := [.int x, .int y]) (rest := [.int 0, .ref o]) (Wc := [clP cI cZ cS O k g a d w0 c f z V T n K G L v]) (Ws := [arJ cJ o ww, clP cI cZ cS O k g a d w0 c f z V T n K G L v]) X hZ (k_ifDroppedTI l D cI cZ cS cJ hl9 O k g a d w0 c f z V T n K G L v x y hT) (cwV 2 hts gL_ifDropped_X6_ifDropped rfl rfl rfl (by decide +kernel) ⟨Nat.le_of_ble_eq_true rfl, Nat.le_of_ble_eq_true rfl⟩) hK hP hD hS hA [1] rfl (by decide +kernel) 1 6 rfl rfl rfl hl.1 rfl (Nat.le_of_ble_eq_true rfl) dL_ifDropped_5 ⟨Nat.le_of_ble_eq_true rfl, Nat.le_of_ble_eq_true rfl⟩ (fun H locs q9 ce hP hS h1 h2 h3 => ?_)
  refine vx_catch (own := RL) (name := xcI) hown [] ⟨0, 10, 13, 13⟩ [⟨0, 10, 17, 15⟩] (htab.trans rfl) (fun z9 hz9 => absurd hz9 List.not_mem_nil) (by decide) (by decide) (hts (.classLink RL 13 xcI) (by decide +kernel)) (va_Nw.use rfl hZ.1.2.1.1) h1 h2 h3 ?_
  refine lv_astore (lv' := [(4, .ref q9), (0, .ref (O 0)), (1, .int x), (2, .int y), (3, .ref o)]) hx hb dL_ifDropped_13 hl (by decide) rfl (fun ls hl => ?_)
  refine lv_iconst (v := 1) hx hb dL_ifDropped_15 (by decide) ?_
  refine W.widen (k := 1) (n := 6) (by omega) (by omega) ?_
  exact hend () 1 _ _ _ _ trivial rfl hP hD hS dL_ifDropped_16

set_option maxHeartbeats 4000000 in
theorem h_ifDroppedTA (l : Launch) (D : va_G) (cI cZ cS cJ : ClassId) (hl9 : l.stackTraces = false) (O k g a d : Nat → Nat) (w0 : Int32) (c : Nat → Nat → Nat) (f : Nat → Option Nat) (z : Nat) (V : Nat → Nat → Nat → Int32) (T : Nat → Int32) (n : Nat) (K G : Nat → Nat → Int32) (L : Nat → Int32) (v : Int32) (o : Nat) (ww : Int64) (b : Nat) (x : Int32) (hb8 : b < 8) (hT : ¬ inR x 0 2) : CH (U := Unit) l yL_ifDropped wsL_ifDropped ({ frames := 8, cells := 1, slots := 6, locals := 152 }) D (tyL cI cZ cS cJ) [.ref (O 0), .int (nI b), .int x, .ref o] (List.flatten [arJ cJ o ww, clP cI cZ cS O k g a d w0 c f z V T n K G L v]) (fun _ => True) (fun _ => some (.int 2)) (fun u => List.flatten [arJ cJ o ww, clP cI cZ cS O k g a d w0 c f z V T n K G L v]) 1 6 := by
  refine CH_int (cc := cL_ifDropped) (maxL := 5) (rt := .int) (r := fun _ => 2) (by decide) rfl (Nat.le_of_ble_eq_true rfl) (fun _ _ => rfl) ?_
  intro p e s m below meth cd A ls Q X hK hP hD hS hA hl hZ htab hend
  have X : CallFix p m cd cL_ifDropped 5 s ([.ref (O 0), .int (nI b), .int x, .ref o] : List Value).toArray wsL_ifDropped RL := X
  obtain ⟨hx, hb, hml, hown, hts⟩ := id X
  have hl : lv_has ls 5 [(0, .ref (O 0)), (1, .int (nI b)), (2, .int x), (3, .ref o)] := hl
  refine lv_aload_n hx hb dL_ifDropped_0 rfl (lv_at hl 3 rfl) ?_
  refine lv_iconst (v := 0) hx hb dL_ifDropped_1 (by decide) ?_
  refine lv_aload_n hx hb dL_ifDropped_2 rfl (lv_at hl 0 rfl) ?_
  refine lv_iload_n hx hb dL_ifDropped_3 rfl (lv_at hl 1 rfl) ?_
  refine lv_iload_n hx hb dL_ifDropped_4 rfl (lv_at hl 2 rfl) ?_
  refine kcallVT (As := [.int (nI b), .int x]) (rest := [.int 0, .ref o]) (Wc := [clP cI cZ cS O k g a d w0 c f z V T n K G L v]) (Ws := [arJ cJ o ww, clP cI cZ cS O k g a d w0 c f z V T n K G L v]) X hZ (k_ifDroppedTA l D cI cZ cS cJ hl9 O k g a d w0 c f z V T n K G L v b x hb8 hT) (cwV 2 hts gL_ifDropped_X6_ifDropped rfl rfl rfl (by decide +kernel) ⟨Nat.le_of_ble_eq_true rfl, Nat.le_of_ble_eq_true rfl⟩) hK hP hD hS hA [1] rfl (by decide +kernel) 1 6 rfl rfl rfl hl.1 rfl (Nat.le_of_ble_eq_true rfl) dL_ifDropped_5 ⟨Nat.le_of_ble_eq_true rfl, Nat.le_of_ble_eq_true rfl⟩ (fun H locs q9 ce hP hS h1 h2 h3 => ?_)
  refine vx_catch (own := RL) (name := xcA) hown [⟨0, 10, 13, 13⟩] ⟨0, 10, 17, 15⟩ [] (htab.trans rfl) (fun z9 hz9 => by obtain rfl := List.mem_singleton.mp hz9; exact Or.inr ⟨by decide, xcI, hts (.classLink RL 13 xcI) (by decide +kernel), hZ.1.2.2.1⟩) (by decide) (by decide) (hts (.classLink RL 15 xcA) (by decide +kernel)) (va_Nw.use rfl hZ.1.2.1.2.1) h1 h2 h3 ?_
  refine lv_astore (lv' := [(4, .ref q9), (0, .ref (O 0)), (1, .int (nI b)), (2, .int x), (3, .ref o)]) hx hb dL_ifDropped_17 hl (by decide) rfl (fun ls hl => ?_)
  refine lv_iconst (v := 2) hx hb dL_ifDropped_19 (by decide) ?_
  refine W.widen (k := 1) (n := 6) (by omega) (by omega) ?_
  exact hend () 2 _ _ _ _ trivial rfl hP hD hS dL_ifDropped_20

set_option maxHeartbeats 4000000 in
theorem h_landsInN (l : Launch) (D : va_G) (cI cZ cS cJ : ClassId) (hl9 : l.stackTraces = false) (O k g a d : Nat → Nat) (w0 : Int32) (c : Nat → Nat → Nat) (f : Nat → Option Nat) (z : Nat) (V : Nat → Nat → Nat → Int32) (T : Nat → Int32) (n : Nat) (K G : Nat → Nat → Int32) (L : Nat → Int32) (v : Int32) (o : Nat) (ww : Int64) (b : Nat) (L9 : Nat → Int32) (hO : OK (V 0)) (hb8 : b < 8) (hL9 : Lnd (V 0) 200 = L9) : CH (U := (Nat → Nat → Int32) × (Nat → Int32) × Int32) l yL_landsIn wsL_landsIn ({ frames := 8, cells := 1, slots := 6, locals := 157 }) D (tyL cI cZ cS cJ) [.ref (O 0), .int (nI b), .ref o] (List.flatten [arJ cJ o ww, clP cI cZ cS O k g a d w0 c f z V T n K G L v]) (fun _ => True) (fun _ => some (.int 0)) (fun u => List.flatten [arJ cJ o (L9 b).toInt64, clP cI cZ cS O k g a d w0 c f z V T n K u.1 u.2.1 u.2.2]) 1 6 := by
  refine CH_int (cc := cL_landsIn) (maxL := 4) (rt := .int) (r := fun _ => 0) (by decide) rfl (Nat.le_of_ble_eq_true rfl) (fun _ _ => rfl) ?_
  intro p e s m below meth cd A ls Q X hK hP hD hS hA hl hZ htab hend
  have X : CallFix p m cd cL_landsIn 4 s ([.ref (O 0), .int (nI b), .ref o] : List Value).toArray wsL_landsIn RL := X
  obtain ⟨hx, hb, hml, hown, hts⟩ := id X
  have hl : lv_has ls 4 [(0, .ref (O 0)), (1, .int (nI b)), (2, .ref o)] := hl
  refine lv_aload_n hx hb dL_landsIn_0 rfl (lv_at hl 2 rfl) ?_
  refine lv_iconst (v := 0) hx hb dL_landsIn_1 (by decide) ?_
  refine lv_aload_n hx hb dL_landsIn_2 rfl (lv_at hl 0 rfl) ?_
  refine lv_iload_n hx hb dL_landsIn_3 rfl (lv_at hl 1 rfl) ?_
  refine kcallVJ (U := (Nat → Nat → Int32) × (Nat → Int32) × Int32) (As := [.int (nI b)]) (rest := [.int 0, .ref o]) (Wr := [arJ cJ o ww]) (Wc := [clP cI cZ cS O k g a d w0 c f z V T n K G L v]) (Wo := fun u => [clP cI cZ cS O k g a d w0 c f z V T n K u.1 u.2.1 u.2.2]) X (k_landsIn l D cI cZ cS cJ O k g a d w0 c f z V T n K G L v b L9 hO hb8 hL9) (cwV 1 hts gL_landsIn_X6_landsIn rfl rfl rfl (by decide +kernel) ⟨Nat.le_of_ble_eq_true rfl, Nat.le_of_ble_eq_true rfl⟩) hK hP hD hS hA 0 6 rfl rfl rfl hl.1 rfl (Nat.le_of_ble_eq_true rfl) dL_landsIn_4 ⟨Nat.le_of_ble_eq_true rfl, Nat.le_of_ble_eq_true rfl⟩ (fun u H locs hu hP hD hS => ?_)
  have hP : va_P D vwCl (List.flatten [arJ cJ o ww, clP cI cZ cS O k g a d w0 c f z V T n K u.1 u.2.1 u.2.2]) _ := hP
  have hD : va_D A (List.flatten [arJ cJ o ww, clP cI cZ cS O k g a d w0 c f z V T n K u.1 u.2.1 u.2.2]) := hD
  refine lv_i2l (v := (L9 b).toInt64) hx hb dL_landsIn_7 rfl ?_
  refine r_last (w := ww) (x := (L9 b).toInt64) (wn := List.flatten [arJ cJ o (L9 b).toInt64, clP cI cZ cS O k g a d w0 c f z V T n K u.1 u.2.1 u.2.2]) hx hb hK hP hD hS 0 3 rfl rfl rfl dL_landsIn_8 (fun H locs hP hD hS => ?_)
  refine lv_goto (tgt := 15) hx hb dL_landsIn_9 (by decide) ?_
  refine lv_iconst (v := 0) hx hb dL_landsIn_15 (by decide) ?_
  refine W.widen (k := 1) (n := 6) (by omega) (by omega) ?_
  exact hend u 0 _ _ _ _ trivial rfl hP hD hS dL_landsIn_16

set_option maxHeartbeats 4000000 in
theorem h_landsInTI (l : Launch) (D : va_G) (cI cZ cS cJ : ClassId) (hl9 : l.stackTraces = false) (O k g a d : Nat → Nat) (w0 : Int32) (c : Nat → Nat → Nat) (f : Nat → Option Nat) (z : Nat) (V : Nat → Nat → Nat → Int32) (T : Nat → Int32) (n : Nat) (K G : Nat → Nat → Int32) (L : Nat → Int32) (v : Int32) (o : Nat) (ww : Int64) (x : Int32) (hT : ¬ isB x) : CH (U := Unit) l yL_landsIn wsL_landsIn ({ frames := 8, cells := 1, slots := 6, locals := 157 }) D (tyL cI cZ cS cJ) [.ref (O 0), .int x, .ref o] (List.flatten [arJ cJ o ww, clP cI cZ cS O k g a d w0 c f z V T n K G L v]) (fun _ => True) (fun _ => some (.int 1)) (fun u => List.flatten [arJ cJ o ww, clP cI cZ cS O k g a d w0 c f z V T n K G L v]) 1 6 := by
  refine CH_int (cc := cL_landsIn) (maxL := 4) (rt := .int) (r := fun _ => 1) (by decide) rfl (Nat.le_of_ble_eq_true rfl) (fun _ _ => rfl) ?_
  intro p e s m below meth cd A ls Q X hK hP hD hS hA hl hZ htab hend
  have X : CallFix p m cd cL_landsIn 4 s ([.ref (O 0), .int x, .ref o] : List Value).toArray wsL_landsIn RL := X
  obtain ⟨hx, hb, hml, hown, hts⟩ := id X
  have hl : lv_has ls 4 [(0, .ref (O 0)), (1, .int x), (2, .ref o)] := hl
  refine lv_aload_n hx hb dL_landsIn_0 rfl (lv_at hl 2 rfl) ?_
  refine lv_iconst (v := 0) hx hb dL_landsIn_1 (by decide) ?_
  refine lv_aload_n hx hb dL_landsIn_2 rfl (lv_at hl 0 rfl) ?_
  refine lv_iload_n hx hb dL_landsIn_3 rfl (lv_at hl 1 rfl) ?_
  refine kcallVT (As := [.int x]) (rest := [.int 0, .ref o]) (Wc := [clP cI cZ cS O k g a d w0 c f z V T n K G L v]) (Ws := [arJ cJ o ww, clP cI cZ cS O k g a d w0 c f z V T n K G L v]) X hZ (k_landsInTI l D cI cZ cS cJ hl9 O k g a d w0 c f z V T n K G L v x hT) (cwV 1 hts gL_landsIn_X6_landsIn rfl rfl rfl (by decide +kernel) ⟨Nat.le_of_ble_eq_true rfl, Nat.le_of_ble_eq_true rfl⟩) hK hP hD hS hA [1] rfl (by decide +kernel) 1 6 rfl rfl rfl hl.1 rfl (Nat.le_of_ble_eq_true rfl) dL_landsIn_4 ⟨Nat.le_of_ble_eq_true rfl, Nat.le_of_ble_eq_true rfl⟩ (fun H locs q9 ce hP hS h1 h2 h3 => ?_)
  refine vx_catch (own := RL) (name := xcI) hown [] ⟨0, 9, 12, 13⟩ [] (htab.trans rfl) (fun z9 hz9 => absurd hz9 List.not_mem_nil) (by decide) (by decide) (hts (.classLink RL 13 xcI) (by decide +kernel)) (va_Nw.use rfl hZ.1.2.1.1) h1 h2 h3 ?_
  refine lv_astore_n (lv' := [(3, .ref q9), (0, .ref (O 0)), (1, .int x), (2, .ref o)]) hx hb dL_landsIn_12 rfl hl (by decide) rfl (fun ls hl => ?_)
  refine lv_iconst (v := 1) hx hb dL_landsIn_13 (by decide) ?_
  refine W.widen (k := 1) (n := 6) (by omega) (by omega) ?_
  exact hend () 1 _ _ _ _ trivial rfl hP hD hS dL_landsIn_14

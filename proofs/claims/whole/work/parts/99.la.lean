/-! the law's loop: its world, what is owed at its foot -/
abbrev LW (cI cZ cS cJ : ClassId) (o m0 m1 m2 m3 : Nat) (O k g a d : Nat → Nat) (w0 : Int32) (c : Nat → Nat → Nat) (f : Nat → Option Nat) (z : Nat) (V : Nat → Nat → Nat → Int32) (T : Nat → Int32) (n : Nat) (K G : Nat → Nat → Int32) (L : Nat → Int32) (v : Int32) (ww : Int64) (th ca lt fi sd : Int32) (hs : Int64) (B : Nat → Nat → Nat → Int32) (h : Nat → Int32) : List va_W :=
  [mdO m0 m1 m2 m3 th (nI z) w0 (nI n) ca lt fi sd hs, arC cI m1 1170 (enc B), arC cI m2 60 T, arC cI m3 8 h, arJ cJ o ww, clP cI cZ cS O k g a d w0 c f z V T n K G L v]
/-- from the loop's foot on -/
def KT (pc : Nat) (p : Program) (l : Launch) (e : Env) (s : State) (m : MethodId) (args : Array Value) (below : List Frame) (meth : Method) (cd : Code) (Q : State → Prop) (A : Nat → Prop) (D : va_G) (cI cZ cS cJ : ClassId) (b o m0 m1 m2 m3 : Nat) (O k g a d : Nat → Nat) (t cells slots : Nat) : Prop :=
  ∀ (w0 : Int32) (c : Nat → Nat → Nat) (f : Nat → Option Nat) (z : Nat) (V : Nat → Nat → Nat → Int32) (T : Nat → Int32) (n : Nat) (K G : Nat → Nat → Int32) (L : Nat → Int32) (v : Int32) (ww : Int64) (th ca lt fi sd : Int32) (hs : Int64) (B : Nat → Nat → Nat → Int32) (h : Nat → Int32), IV (t + 1) w0 n c f z V B → ∀ (H : Heap) (locs : List Loc) (ls : Array Slot), va_P D vwCl (List.flatten (LW cI cZ cS cJ o m0 m1 m2 m3 O k g a d w0 c f z V T n K G L v ww th ca lt fi sd hs B h)) H → va_D A (List.flatten (LW cI cZ cS cJ o m0 m1 m2 m3 O k g a d w0 c f z V T n K G L v ww th ca lt fi sd hs B h)) → va_S A s.heap H locs → lv_has ls 9 [(0, .ref b), (1, .ref (O 0)), (2, .ref m0), (3, .ref o), (4, .int (nI (3 * t)))] →
    W p l e room_1 s m args below meth cd H locs cells slots Q (F0 m pc ls [])
theorem IV_7 {t : Nat} {w0 : Int32} {n : Nat} {c : Nat → Nat → Nat} {f : Nat → Option Nat} {z : Nat} {V B : Nat → Nat → Nat → Int32} (h : IV t w0 n c f z V B) (hw : ¬ w0 = 0) : V 7 = B 7 ∧ GD t (B 7) := by
  rcases h.2.2.2.2.2 with h1 | h1
  · exact absurd h1 hw
  · exact ⟨h1.2.1, h1.2.2⟩
theorem IV_z {t : Nat} {w0 : Int32} {n : Nat} {c : Nat → Nat → Nat} {f : Nat → Option Nat} {z : Nat} {V B : Nat → Nat → Nat → Int32} (h : IV t w0 n c f z V B) (hz : 0 < z) : OK (V z) := by
  obtain ⟨q, rfl⟩ : ∃ q, z = q + 1 := ⟨z - 1, by omega⟩
  rw [h.2.2.1 q (by omega)]
  exact (h.2.2.2.2.1 q (by omega)).1

set_option maxHeartbeats 4000000 in
set_option maxRecDepth 100000 in
theorem lw_fill {p : Program} {e : Env} {s : State} {m : MethodId} {args : Array Value} {below : List Frame} {meth : Method} {cd : Code} {Q : State → Prop} {A : Nat → Prop} (l : Launch) (D : va_G) (cI cZ cS cJ : ClassId) (hl9 : l.stackTraces = false) (X : CallFix p m cd cL_law 9 s args wsL_law RL) (hZ : ZX A s) (hK : va_K D vwCl (tyL cI cZ cS cJ) s) (hA : ∀ q, s.heap.size ≤ q → A q) {b Lx : Nat} {xs : Nat → Int32} (hX : va_X b Lx xs s s.heap) (hbl : b < s.heap.size) (hbA : ¬ A b) (o m0 m1 m2 m3 : Nat) (O k g a d : Nat → Nat) (w0 : Int32) (c : Nat → Nat → Nat) (f : Nat → Option Nat) (z : Nat) (V : Nat → Nat → Nat → Int32) (T : Nat → Int32) (n : Nat) (K G : Nat → Nat → Int32) (L : Nat → Int32) (v : Int32) (ww : Int64) (th ca lt fi sd : Int32) (hs : Int64) (B : Nat → Nat → Nat → Int32) (h : Nat → Int32) (t cells slots : Nat) (ht : t < 600) (hLx : 3 * t + 2 < Lx) (hLx2 : Lx ≤ 1536) (hcs : cells + 1 ≤ room_1.cells ∧ slots + 6 ≤ room_1.slots) (hI : IV t w0 n c f z V B) (hk : KT 1723 p l e s m args below meth cd Q A D cI cZ cS cJ b o m0 m1 m2 m3 O k g a d t (cells + 1) (slots + 6)) (H : Heap) (locs : List Loc) (ls : Array Slot) (hP : va_P D vwCl (List.flatten (LW cI cZ cS cJ o m0 m1 m2 m3 O k g a d w0 c f z V T n K G L v ww th ca lt fi sd hs B h)) H) (hD : va_D A (List.flatten (LW cI cZ cS cJ o m0 m1 m2 m3 O k g a d w0 c f z V T n K G L v ww th ca lt fi sd hs B h))) (hS : va_S A s.heap H locs) (hl : lv_has ls 9 [(0, .ref b), (1, .ref (O 0)), (2, .ref m0), (3, .ref o), (4, .int (nI (3 * t)))]) : W p l e room_1 s m args below meth cd H locs cells slots Q (F0 m 176 ls []) := by
  obtain ⟨hx, hb, hml, hown, hts⟩ := id X
  have hO : OK (B 0) := hI.2.2.2.1.1
  have hz6 := hI.1.1
  have hn60 := hI.1.2.1
  have hf := hI.1.2.2
  have hV0 : V 0 = B 0 := hI.2.1
  have hOV : OK (V 0) := by rw [hV0]; exact hO
  obtain ⟨x, ex⟩ : ∃ x9, xs (3 * t + 1) = x9 := ⟨_, rfl⟩
  obtain ⟨y, ey⟩ : ∃ x9, xs (3 * t + 2) = x9 := ⟨_, rfl⟩
  refine lv_aload_n hx hb dL_law_176 rfl (lv_at hl 1 rfl) ?_
  refine lv_aload_n hx hb dL_law_177 rfl (lv_at hl 0 rfl) ?_
  refine lv_iload hx hb dL_law_178 (lv_at hl 4 rfl) ?_
  refine lv_iconst (v := 1) hx hb dL_law_180 (by decide) ?_
  refine lv_iadd hx hb dL_law_181 ?_
  refine lv_eqi (y := nI (3 * t + 1)) (nI_add _ _) ?_
  refine va_sld hx hb hX hbl hbA hS (vp_in_nI (n := 3 * t + 1) (N := Lx) (by omega) (by omega)) dL_law_182 ?_
  refine lv_eqi (y := x) (by rw [nI_clamp (by omega)]; exact ex) ?_
  refine lv_aload_n hx hb dL_law_183 rfl (lv_at hl 0 rfl) ?_
  refine lv_iload hx hb dL_law_184 (lv_at hl 4 rfl) ?_
  refine lv_iconst (v := 2) hx hb dL_law_186 (by decide) ?_
  refine lv_iadd hx hb dL_law_187 ?_
  refine lv_eqi (y := nI (3 * t + 2)) (nI_add _ _) ?_
  refine va_sld hx hb hX hbl hbA hS (vp_in_nI (n := 3 * t + 2) (N := Lx) (by omega) (by omega)) dL_law_188 ?_
  refine lv_eqi (y := y) (by rw [nI_clamp (by omega)]; exact ey) ?_
  refine lv_aload_n hx hb dL_law_189 rfl (lv_at hl 3 rfl) ?_
  refine kcallHJ (U := (Int32) × (Nat → Nat → Nat) × (Nat → Option Nat) × (Nat) × (Nat → Nat → Nat → Int32) × (Int64)) (As := [.ref (O 0), .int x, .int y, .ref o]) (rest := []) (Wr := [mdO m0 m1 m2 m3 th (nI z) w0 (nI n) ca lt fi sd hs, arC cI m1 1170 (enc B), arC cI m2 60 T, arC cI m3 8 h]) (Wc := [arJ cJ o ww, clP cI cZ cS O k g a d w0 c f z V T n K G L v]) (Wo := fun u => [arJ cJ o u.2.2.2.2.2, clP cI cZ cS O k g a d w0 u.2.1 u.2.2.1 u.2.2.2.1 u.2.2.2.2.1 T n K G L v]) X hZ (h_fill l D cI cZ cS cJ hl9 O k g a d w0 c f z V T n K G L v o ww x y hz6 hf hOV) (vx_cwSW 4 hts gL_law_L_fill rfl rfl rfl (by decide +kernel) ⟨Nat.le_of_ble_eq_true rfl, Nat.le_of_ble_eq_true rfl⟩) hK hP hD hS hA rfl hl.1 rfl (Nat.le_of_ble_eq_true rfl) dL_law_190 ⟨by omega, by omega⟩ (fun uu H locs hq0 hP hD hS => ?_)
  obtain ⟨k9, c9, f9, z9, V9, w9⟩ := uu
  have hP : va_P D vwCl (List.flatten [mdO m0 m1 m2 m3 th (nI z) w0 (nI n) ca lt fi sd hs, arC cI m1 1170 (enc B), arC cI m2 60 T, arC cI m3 8 h, arJ cJ o w9, clP cI cZ cS O k g a d w0 c9 f9 z9 V9 T n K G L v]) _ := hP
  have hD : va_D A (List.flatten [mdO m0 m1 m2 m3 th (nI z) w0 (nI n) ca lt fi sd hs, arC cI m1 1170 (enc B), arC cI m2 60 T, arC cI m3 8 h, arJ cJ o w9, clP cI cZ cS O k g a d w0 c9 f9 z9 V9 T n K G L v]) := hD
  rw [hV0] at hq0
  refine lv_istore (lv' := [(5, .int k9), (0, .ref b), (1, .ref (O 0)), (2, .ref m0), (3, .ref o), (4, .int (nI (3 * t)))]) hx hb dL_law_193 hl (by decide) rfl (fun ls hl => ?_)
  refine lv_aload_n hx hb dL_law_195 rfl (lv_at hl 3 rfl) ?_
  refine lv_aload_n hx hb dL_law_196 rfl (lv_at hl 1 rfl) ?_
  refine lv_iload hx hb dL_law_197 (lv_at hl 5 rfl) ?_
  refine lv_iconst (v := 1) hx hb dL_law_199 (by decide) ?_
  refine lv_iadd hx hb dL_law_200 ?_
  refine lv_eqi (y := nI (3 * t + 1)) (nI_add _ _) ?_
  refine va_sld hx hb hX hbl hbA hS (vp_in_nI (n := 3 * t + 1) (N := Lx) (by omega) (by omega)) dL_law_201 ?_
  refine lv_eqi (y := x) (by rw [nI_clamp (by omega)]; exact ex) ?_
  refine lv_aload_n hx hb dL_law_202 rfl (lv_at hl 1 rfl) ?_
  refine lv_iload hx hb dL_law_203 (lv_at hl 5 rfl) ?_
  refine lv_iconst (v := 2) hx hb dL_law_205 (by decide) ?_
  refine lv_iadd hx hb dL_law_206 ?_
  refine lv_eqi (y := nI (3 * t + 2)) (nI_add _ _) ?_
  refine va_sld hx hb hX hbl hbA hS (vp_in_nI (n := 3 * t + 2) (N := Lx) (by omega) (by omega)) dL_law_207 ?_
  refine lv_eqi (y := y) (by rw [nI_clamp (by omega)]; exact ey) ?_
  refine kcallVE (As := [.int x, .int y]) (rest := []) (Wn := fun u => [mdO m0 m1 m2 m3 u.1 u.2.2.1 w0 (nI n) ca lt fi sd hs, arC cI m1 1170 (enc u.2.1), arC cI m2 60 T, arC cI m3 8 u.2.2.2.1, arJ cJ o w9, clP cI cZ cS O k g a d w0 c9 f9 z9 V9 T n K G L v]) X (c_X7_fill l D cI cZ cS cJ m0 m1 m2 m3 th w0 (nI n) ca lt fi sd hs B T h z x y hz6 hO.1 hO.2.1) (cwV 2 hts gL_law_X7_fill rfl rfl rfl (by decide +kernel) ⟨Nat.le_of_ble_eq_true rfl, Nat.le_of_ble_eq_true rfl⟩) hK hP hD hS hA [0, 1, 2, 3] rfl (by decide +kernel) (fun _ => rfl) (fun _ => rfl) (fun _ => rfl) 0 7 rfl rfl rfl hl.1 rfl (Nat.le_of_ble_eq_true rfl) dL_law_208 ⟨by omega, by omega⟩ (fun uu H locs hu hP hD hS => ?_)
  obtain ⟨th9_1, B9_1, sv9_1, h9_1, r9_1⟩ := uu
  have hres_1 := hu
  have hP : va_P D vwCl (List.flatten [mdO m0 m1 m2 m3 th9_1 sv9_1 w0 (nI n) ca lt fi sd hs, arC cI m1 1170 (enc B9_1), arC cI m2 60 T, arC cI m3 8 h9_1, arJ cJ o w9, clP cI cZ cS O k g a d w0 c9 f9 z9 V9 T n K G L v]) _ := hP
  have hD : va_D A (List.flatten [mdO m0 m1 m2 m3 th9_1 sv9_1 w0 (nI n) ca lt fi sd hs, arC cI m1 1170 (enc B9_1), arC cI m2 60 T, arC cI m3 8 h9_1, arJ cJ o w9, clP cI cZ cS O k g a d w0 c9 f9 z9 V9 T n K G L v]) := hD
  obtain ⟨hIV, es, hth, hw⟩ := sv_step hI hq0 hres_1 (fun hK9 => GD_fil (by omega) hI.2.2.2.1 hK9)
  subst es
  have hP : va_P D vwCl (List.flatten [mdO m0 m1 m2 m3 th9_1 (nI z9) w0 (nI n) ca lt fi sd hs, arC cI m1 1170 (enc B9_1), arC cI m2 60 T, arC cI m3 8 h9_1, arJ cJ o w9, clP cI cZ cS O k g a d w0 c9 f9 z9 V9 T n K G L v]) _ := hP
  have hD : va_D A (List.flatten [mdO m0 m1 m2 m3 th9_1 (nI z9) w0 (nI n) ca lt fi sd hs, arC cI m1 1170 (enc B9_1), arC cI m2 60 T, arC cI m3 8 h9_1, arJ cJ o w9, clP cI cZ cS O k g a d w0 c9 f9 z9 V9 T n K G L v]) := hD
  refine lv_istore (lv' := [(6, .int r9_1), (5, .int k9), (0, .ref b), (1, .ref (O 0)), (2, .ref m0), (3, .ref o), (4, .int (nI (3 * t)))]) hx hb dL_law_211 hl (by decide) rfl (fun ls hl => ?_)
  refine lv_aload_n hx hb dL_law_213 rfl (lv_at hl 4 rfl) ?_
  refine kcallV (As := []) (rest := []) (Wn := [mdO m0 m1 m2 m3 th9_1 (nI z9) w0 (nI n) ca lt fi sd hs, arC cI m1 1170 (enc B9_1), arC cI m2 60 T, arC cI m3 8 h9_1, arJ cJ o w9, clP cI cZ cS O k g a d w0 c9 f9 z9 V9 T n K G L v]) X (c_X7_thrown l D cI cZ cS cJ m0 m1 m2 m3 th9_1 (nI z9) w0 (nI n) ca lt fi sd hs B9_1 T h9_1) (cwV 0 hts gL_law_X7_thrown rfl rfl rfl (by decide +kernel) ⟨Nat.le_of_ble_eq_true rfl, Nat.le_of_ble_eq_true rfl⟩) hK hP hD hS hA [0, 1, 2, 3] rfl (by decide +kernel) rfl rfl rfl 0 7 rfl rfl rfl hl.1 rfl (Nat.le_of_ble_eq_true rfl) dL_law_214 ⟨by omega, by omega⟩ (fun H locs hP hD hS => ?_)
  refine lv_iload hx hb dL_law_217 (lv_at hl 1 rfl) ?_
  refine lv_icmp_eq (tgt := 224) hx hb dL_law_219 (by decide) (fun _ => ?_) (fun h => absurd hth h)
  refine lv_iload hx hb dL_law_224 (lv_at hl 1 rfl) ?_
  refine lv_if_ne (tgt := 241) hx hb dL_law_226 (by decide) (fun q9c => ?_) (fun q9c => ?_)
  · skip
    refine lv_goto (tgt := 1723) hx hb dL_law_241 (by decide) ?_
    refine W.widen (k := cells + 1) (n := slots + 6) (by omega) (by omega) ?_
    exact hk w0 c9 f9 z9 V9 T n K G L v w9 th9_1 ca lt fi sd hs B9_1 h9_1 hIV _ _ _ hP hD hS (lv_sub hl [2, 3, 4, 5, 6] rfl)
  · skip
    refine lv_aload_n hx hb dL_law_229 rfl (lv_at hl 5 rfl) ?_
    refine lv_iconst (v := 0) hx hb dL_law_230 (by decide) ?_
    refine va_lald hx hb hK hP 4 3 rfl rfl (vp_in_nI (n := 0) (N := 1) (by omega) (by omega)) dL_law_231 ?_
    refine lv_iload hx hb dL_law_232 (lv_at hl 0 rfl) ?_
    refine lv_i2l (v := r9_1.toInt64) hx hb dL_law_234 rfl ?_
    refine W.lcmp hx hb dL_law_235 ?_
    refine lv_if_eq (tgt := 241) hx hb dL_law_236 (by decide) (fun _ => ?_) (fun h => absurd (by rw [show w9 = _ from hw q9c]; exact lg_same _) h)
    refine lv_goto (tgt := 1723) hx hb dL_law_241 (by decide) ?_
    refine W.widen (k := cells + 1) (n := slots + 6) (by omega) (by omega) ?_
    exact hk w0 c9 f9 z9 V9 T n K G L v w9 th9_1 ca lt fi sd hs B9_1 h9_1 hIV _ _ _ hP hD hS (lv_sub hl [2, 3, 4, 5, 6] rfl)

set_option maxHeartbeats 4000000 in
set_option maxRecDepth 100000 in
theorem lw_vent {p : Program} {e : Env} {s : State} {m : MethodId} {args : Array Value} {below : List Frame} {meth : Method} {cd : Code} {Q : State → Prop} {A : Nat → Prop} (l : Launch) (D : va_G) (cI cZ cS cJ : ClassId) (hl9 : l.stackTraces = false) (X : CallFix p m cd cL_law 9 s args wsL_law RL) (hZ : ZX A s) (hK : va_K D vwCl (tyL cI cZ cS cJ) s) (hA : ∀ q, s.heap.size ≤ q → A q) {b Lx : Nat} {xs : Nat → Int32} (hX : va_X b Lx xs s s.heap) (hbl : b < s.heap.size) (hbA : ¬ A b) (o m0 m1 m2 m3 : Nat) (O k g a d : Nat → Nat) (w0 : Int32) (c : Nat → Nat → Nat) (f : Nat → Option Nat) (z : Nat) (V : Nat → Nat → Nat → Int32) (T : Nat → Int32) (n : Nat) (K G : Nat → Nat → Int32) (L : Nat → Int32) (v : Int32) (ww : Int64) (th ca lt fi sd : Int32) (hs : Int64) (B : Nat → Nat → Nat → Int32) (h : Nat → Int32) (t cells slots : Nat) (ht : t < 600) (hLx : 3 * t + 2 < Lx) (hLx2 : Lx ≤ 1536) (hcs : cells + 1 ≤ room_1.cells ∧ slots + 6 ≤ room_1.slots) (hI : IV t w0 n c f z V B) (hk : KT 1723 p l e s m args below meth cd Q A D cI cZ cS cJ b o m0 m1 m2 m3 O k g a d t (cells + 1) (slots + 6)) (H : Heap) (locs : List Loc) (ls : Array Slot) (hP : va_P D vwCl (List.flatten (LW cI cZ cS cJ o m0 m1 m2 m3 O k g a d w0 c f z V T n K G L v ww th ca lt fi sd hs B h)) H) (hD : va_D A (List.flatten (LW cI cZ cS cJ o m0 m1 m2 m3 O k g a d w0 c f z V T n K G L v ww th ca lt fi sd hs B h))) (hS : va_S A s.heap H locs) (hl : lv_has ls 9 [(0, .ref b), (1, .ref (O 0)), (2, .ref m0), (3, .ref o), (4, .int (nI (3 * t)))]) : W p l e room_1 s m args below meth cd H locs cells slots Q (F0 m 244 ls []) := by
  obtain ⟨hx, hb, hml, hown, hts⟩ := id X
  have hO : OK (B 0) := hI.2.2.2.1.1
  have hz6 := hI.1.1
  have hn60 := hI.1.2.1
  have hf := hI.1.2.2
  have hV0 : V 0 = B 0 := hI.2.1
  have hOV : OK (V 0) := by rw [hV0]; exact hO
  obtain ⟨x, ex⟩ : ∃ x9, xs (3 * t + 1) = x9 := ⟨_, rfl⟩
  obtain ⟨y, ey⟩ : ∃ x9, xs (3 * t + 2) = x9 := ⟨_, rfl⟩
  refine lv_aload_n hx hb dL_law_244 rfl (lv_at hl 1 rfl) ?_
  refine lv_aload_n hx hb dL_law_245 rfl (lv_at hl 0 rfl) ?_
  refine lv_iload hx hb dL_law_246 (lv_at hl 4 rfl) ?_
  refine lv_iconst (v := 1) hx hb dL_law_248 (by decide) ?_
  refine lv_iadd hx hb dL_law_249 ?_
  refine lv_eqi (y := nI (3 * t + 1)) (nI_add _ _) ?_
  refine va_sld hx hb hX hbl hbA hS (vp_in_nI (n := 3 * t + 1) (N := Lx) (by omega) (by omega)) dL_law_250 ?_
  refine lv_eqi (y := x) (by rw [nI_clamp (by omega)]; exact ex) ?_
  refine lv_aload_n hx hb dL_law_251 rfl (lv_at hl 0 rfl) ?_
  refine lv_iload hx hb dL_law_252 (lv_at hl 4 rfl) ?_
  refine lv_iconst (v := 2) hx hb dL_law_254 (by decide) ?_
  refine lv_iadd hx hb dL_law_255 ?_
  refine lv_eqi (y := nI (3 * t + 2)) (nI_add _ _) ?_
  refine va_sld hx hb hX hbl hbA hS (vp_in_nI (n := 3 * t + 2) (N := Lx) (by omega) (by omega)) dL_law_256 ?_
  refine lv_eqi (y := y) (by rw [nI_clamp (by omega)]; exact ey) ?_
  refine lv_aload_n hx hb dL_law_257 rfl (lv_at hl 3 rfl) ?_
  refine kcallHJ (U := (Int32) × (Nat → Nat → Nat) × (Nat → Option Nat) × (Nat) × (Nat → Nat → Nat → Int32) × (Int64)) (As := [.ref (O 0), .int x, .int y, .ref o]) (rest := []) (Wr := [mdO m0 m1 m2 m3 th (nI z) w0 (nI n) ca lt fi sd hs, arC cI m1 1170 (enc B), arC cI m2 60 T, arC cI m3 8 h]) (Wc := [arJ cJ o ww, clP cI cZ cS O k g a d w0 c f z V T n K G L v]) (Wo := fun u => [arJ cJ o u.2.2.2.2.2, clP cI cZ cS O k g a d w0 u.2.1 u.2.2.1 u.2.2.2.1 u.2.2.2.2.1 T n K G L v]) X hZ (h_vent l D cI cZ cS cJ hl9 O k g a d w0 c f z V T n K G L v o ww x y hz6 hf hOV) (vx_cwSW 4 hts gL_law_L_vent rfl rfl rfl (by decide +kernel) ⟨Nat.le_of_ble_eq_true rfl, Nat.le_of_ble_eq_true rfl⟩) hK hP hD hS hA rfl hl.1 rfl (Nat.le_of_ble_eq_true rfl) dL_law_258 ⟨by omega, by omega⟩ (fun uu H locs hq0 hP hD hS => ?_)
  obtain ⟨k9, c9, f9, z9, V9, w9⟩ := uu
  have hP : va_P D vwCl (List.flatten [mdO m0 m1 m2 m3 th (nI z) w0 (nI n) ca lt fi sd hs, arC cI m1 1170 (enc B), arC cI m2 60 T, arC cI m3 8 h, arJ cJ o w9, clP cI cZ cS O k g a d w0 c9 f9 z9 V9 T n K G L v]) _ := hP
  have hD : va_D A (List.flatten [mdO m0 m1 m2 m3 th (nI z) w0 (nI n) ca lt fi sd hs, arC cI m1 1170 (enc B), arC cI m2 60 T, arC cI m3 8 h, arJ cJ o w9, clP cI cZ cS O k g a d w0 c9 f9 z9 V9 T n K G L v]) := hD
  rw [hV0] at hq0
  refine lv_istore (lv' := [(5, .int k9), (0, .ref b), (1, .ref (O 0)), (2, .ref m0), (3, .ref o), (4, .int (nI (3 * t)))]) hx hb dL_law_261 hl (by decide) rfl (fun ls hl => ?_)
  refine lv_aload_n hx hb dL_law_263 rfl (lv_at hl 3 rfl) ?_
  refine lv_aload_n hx hb dL_law_264 rfl (lv_at hl 1 rfl) ?_
  refine lv_iload hx hb dL_law_265 (lv_at hl 5 rfl) ?_
  refine lv_iconst (v := 1) hx hb dL_law_267 (by decide) ?_
  refine lv_iadd hx hb dL_law_268 ?_
  refine lv_eqi (y := nI (3 * t + 1)) (nI_add _ _) ?_
  refine va_sld hx hb hX hbl hbA hS (vp_in_nI (n := 3 * t + 1) (N := Lx) (by omega) (by omega)) dL_law_269 ?_
  refine lv_eqi (y := x) (by rw [nI_clamp (by omega)]; exact ex) ?_
  refine lv_aload_n hx hb dL_law_270 rfl (lv_at hl 1 rfl) ?_
  refine lv_iload hx hb dL_law_271 (lv_at hl 5 rfl) ?_
  refine lv_iconst (v := 2) hx hb dL_law_273 (by decide) ?_
  refine lv_iadd hx hb dL_law_274 ?_
  refine lv_eqi (y := nI (3 * t + 2)) (nI_add _ _) ?_
  refine va_sld hx hb hX hbl hbA hS (vp_in_nI (n := 3 * t + 2) (N := Lx) (by omega) (by omega)) dL_law_275 ?_
  refine lv_eqi (y := y) (by rw [nI_clamp (by omega)]; exact ey) ?_
  refine kcallVE (As := [.int x, .int y]) (rest := []) (Wn := fun u => [mdO m0 m1 m2 m3 u.1 u.2.2.1 w0 (nI n) ca lt fi sd hs, arC cI m1 1170 (enc u.2.1), arC cI m2 60 T, arC cI m3 8 u.2.2.2.1, arJ cJ o w9, clP cI cZ cS O k g a d w0 c9 f9 z9 V9 T n K G L v]) X (c_X7_vent l D cI cZ cS cJ m0 m1 m2 m3 th w0 (nI n) ca lt fi sd hs B T h z x y hz6 hO.1 hO.2.1) (cwV 2 hts gL_law_X7_vent rfl rfl rfl (by decide +kernel) ⟨Nat.le_of_ble_eq_true rfl, Nat.le_of_ble_eq_true rfl⟩) hK hP hD hS hA [0, 1, 2, 3] rfl (by decide +kernel) (fun _ => rfl) (fun _ => rfl) (fun _ => rfl) 0 7 rfl rfl rfl hl.1 rfl (Nat.le_of_ble_eq_true rfl) dL_law_276 ⟨by omega, by omega⟩ (fun uu H locs hu hP hD hS => ?_)
  obtain ⟨th9_1, B9_1, sv9_1, h9_1, r9_1⟩ := uu
  have hres_1 := hu
  have hP : va_P D vwCl (List.flatten [mdO m0 m1 m2 m3 th9_1 sv9_1 w0 (nI n) ca lt fi sd hs, arC cI m1 1170 (enc B9_1), arC cI m2 60 T, arC cI m3 8 h9_1, arJ cJ o w9, clP cI cZ cS O k g a d w0 c9 f9 z9 V9 T n K G L v]) _ := hP
  have hD : va_D A (List.flatten [mdO m0 m1 m2 m3 th9_1 sv9_1 w0 (nI n) ca lt fi sd hs, arC cI m1 1170 (enc B9_1), arC cI m2 60 T, arC cI m3 8 h9_1, arJ cJ o w9, clP cI cZ cS O k g a d w0 c9 f9 z9 V9 T n K G L v]) := hD
  obtain ⟨hIV, es, hth, hw⟩ := sv_step hI hq0 hres_1 (fun hK9 => GD_ven (by omega) hI.2.2.2.1 hK9)
  subst es
  have hP : va_P D vwCl (List.flatten [mdO m0 m1 m2 m3 th9_1 (nI z9) w0 (nI n) ca lt fi sd hs, arC cI m1 1170 (enc B9_1), arC cI m2 60 T, arC cI m3 8 h9_1, arJ cJ o w9, clP cI cZ cS O k g a d w0 c9 f9 z9 V9 T n K G L v]) _ := hP
  have hD : va_D A (List.flatten [mdO m0 m1 m2 m3 th9_1 (nI z9) w0 (nI n) ca lt fi sd hs, arC cI m1 1170 (enc B9_1), arC cI m2 60 T, arC cI m3 8 h9_1, arJ cJ o w9, clP cI cZ cS O k g a d w0 c9 f9 z9 V9 T n K G L v]) := hD
  refine lv_istore (lv' := [(6, .int r9_1), (5, .int k9), (0, .ref b), (1, .ref (O 0)), (2, .ref m0), (3, .ref o), (4, .int (nI (3 * t)))]) hx hb dL_law_279 hl (by decide) rfl (fun ls hl => ?_)
  refine lv_aload_n hx hb dL_law_281 rfl (lv_at hl 4 rfl) ?_
  refine kcallV (As := []) (rest := []) (Wn := [mdO m0 m1 m2 m3 th9_1 (nI z9) w0 (nI n) ca lt fi sd hs, arC cI m1 1170 (enc B9_1), arC cI m2 60 T, arC cI m3 8 h9_1, arJ cJ o w9, clP cI cZ cS O k g a d w0 c9 f9 z9 V9 T n K G L v]) X (c_X7_thrown l D cI cZ cS cJ m0 m1 m2 m3 th9_1 (nI z9) w0 (nI n) ca lt fi sd hs B9_1 T h9_1) (cwV 0 hts gL_law_X7_thrown rfl rfl rfl (by decide +kernel) ⟨Nat.le_of_ble_eq_true rfl, Nat.le_of_ble_eq_true rfl⟩) hK hP hD hS hA [0, 1, 2, 3] rfl (by decide +kernel) rfl rfl rfl 0 7 rfl rfl rfl hl.1 rfl (Nat.le_of_ble_eq_true rfl) dL_law_282 ⟨by omega, by omega⟩ (fun H locs hP hD hS => ?_)
  refine lv_iload hx hb dL_law_285 (lv_at hl 1 rfl) ?_
  refine lv_icmp_eq (tgt := 292) hx hb dL_law_287 (by decide) (fun _ => ?_) (fun h => absurd hth h)
  refine lv_iload hx hb dL_law_292 (lv_at hl 1 rfl) ?_
  refine lv_if_ne (tgt := 309) hx hb dL_law_294 (by decide) (fun q9c => ?_) (fun q9c => ?_)
  · skip
    refine lv_goto (tgt := 1723) hx hb dL_law_309 (by decide) ?_
    refine W.widen (k := cells + 1) (n := slots + 6) (by omega) (by omega) ?_
    exact hk w0 c9 f9 z9 V9 T n K G L v w9 th9_1 ca lt fi sd hs B9_1 h9_1 hIV _ _ _ hP hD hS (lv_sub hl [2, 3, 4, 5, 6] rfl)
  · skip
    refine lv_aload_n hx hb dL_law_297 rfl (lv_at hl 5 rfl) ?_
    refine lv_iconst (v := 0) hx hb dL_law_298 (by decide) ?_
    refine va_lald hx hb hK hP 4 3 rfl rfl (vp_in_nI (n := 0) (N := 1) (by omega) (by omega)) dL_law_299 ?_
    refine lv_iload hx hb dL_law_300 (lv_at hl 0 rfl) ?_
    refine lv_i2l (v := r9_1.toInt64) hx hb dL_law_302 rfl ?_
    refine W.lcmp hx hb dL_law_303 ?_
    refine lv_if_eq (tgt := 309) hx hb dL_law_304 (by decide) (fun _ => ?_) (fun h => absurd (by rw [show w9 = _ from hw q9c]; exact lg_same _) h)
    refine lv_goto (tgt := 1723) hx hb dL_law_309 (by decide) ?_
    refine W.widen (k := cells + 1) (n := slots + 6) (by omega) (by omega) ?_
    exact hk w0 c9 f9 z9 V9 T n K G L v w9 th9_1 ca lt fi sd hs B9_1 h9_1 hIV _ _ _ hP hD hS (lv_sub hl [2, 3, 4, 5, 6] rfl)

set_option maxHeartbeats 4000000 in
set_option maxRecDepth 100000 in
theorem lw_drop {p : Program} {e : Env} {s : State} {m : MethodId} {args : Array Value} {below : List Frame} {meth : Method} {cd : Code} {Q : State → Prop} {A : Nat → Prop} (l : Launch) (D : va_G) (cI cZ cS cJ : ClassId) (hl9 : l.stackTraces = false) (X : CallFix p m cd cL_law 9 s args wsL_law RL) (hZ : ZX A s) (hK : va_K D vwCl (tyL cI cZ cS cJ) s) (hA : ∀ q, s.heap.size ≤ q → A q) {b Lx : Nat} {xs : Nat → Int32} (hX : va_X b Lx xs s s.heap) (hbl : b < s.heap.size) (hbA : ¬ A b) (o m0 m1 m2 m3 : Nat) (O k g a d : Nat → Nat) (w0 : Int32) (c : Nat → Nat → Nat) (f : Nat → Option Nat) (z : Nat) (V : Nat → Nat → Nat → Int32) (T : Nat → Int32) (n : Nat) (K G : Nat → Nat → Int32) (L : Nat → Int32) (v : Int32) (ww : Int64) (th ca lt fi sd : Int32) (hs : Int64) (B : Nat → Nat → Nat → Int32) (h : Nat → Int32) (t cells slots : Nat) (ht : t < 600) (hLx : 3 * t + 2 < Lx) (hLx2 : Lx ≤ 1536) (hcs : cells + 1 ≤ room_1.cells ∧ slots + 6 ≤ room_1.slots) (hI : IV t w0 n c f z V B) (hk : KT 1723 p l e s m args below meth cd Q A D cI cZ cS cJ b o m0 m1 m2 m3 O k g a d t (cells + 1) (slots + 6)) (H : Heap) (locs : List Loc) (ls : Array Slot) (hP : va_P D vwCl (List.flatten (LW cI cZ cS cJ o m0 m1 m2 m3 O k g a d w0 c f z V T n K G L v ww th ca lt fi sd hs B h)) H) (hD : va_D A (List.flatten (LW cI cZ cS cJ o m0 m1 m2 m3 O k g a d w0 c f z V T n K G L v ww th ca lt fi sd hs B h))) (hS : va_S A s.heap H locs) (hl : lv_has ls 9 [(0, .ref b), (1, .ref (O 0)), (2, .ref m0), (3, .ref o), (4, .int (nI (3 * t)))]) : W p l e room_1 s m args below meth cd H locs cells slots Q (F0 m 312 ls []) := by
  obtain ⟨hx, hb, hml, hown, hts⟩ := id X
  have hO : OK (B 0) := hI.2.2.2.1.1
  have hz6 := hI.1.1
  have hn60 := hI.1.2.1
  have hf := hI.1.2.2
  have hV0 : V 0 = B 0 := hI.2.1
  have hOV : OK (V 0) := by rw [hV0]; exact hO
  obtain ⟨x, ex⟩ : ∃ x9, xs (3 * t + 1) = x9 := ⟨_, rfl⟩
  refine lv_aload_n hx hb dL_law_312 rfl (lv_at hl 1 rfl) ?_
  refine lv_aload_n hx hb dL_law_313 rfl (lv_at hl 0 rfl) ?_
  refine lv_iload hx hb dL_law_314 (lv_at hl 4 rfl) ?_
  refine lv_iconst (v := 1) hx hb dL_law_316 (by decide) ?_
  refine lv_iadd hx hb dL_law_317 ?_
  refine lv_eqi (y := nI (3 * t + 1)) (nI_add _ _) ?_
  refine va_sld hx hb hX hbl hbA hS (vp_in_nI (n := 3 * t + 1) (N := Lx) (by omega) (by omega)) dL_law_318 ?_
  refine lv_eqi (y := x) (by rw [nI_clamp (by omega)]; exact ex) ?_
  refine lv_aload_n hx hb dL_law_319 rfl (lv_at hl 3 rfl) ?_
  refine kcallHJ (U := (Int32) × (Nat → Nat → Nat) × (Nat → Option Nat) × (Nat) × (Nat → Nat → Nat → Int32) × (Int64)) (As := [.ref (O 0), .int x, .ref o]) (rest := []) (Wr := [mdO m0 m1 m2 m3 th (nI z) w0 (nI n) ca lt fi sd hs, arC cI m1 1170 (enc B), arC cI m2 60 T, arC cI m3 8 h]) (Wc := [arJ cJ o ww, clP cI cZ cS O k g a d w0 c f z V T n K G L v]) (Wo := fun u => [arJ cJ o u.2.2.2.2.2, clP cI cZ cS O k g a d w0 u.2.1 u.2.2.1 u.2.2.2.1 u.2.2.2.2.1 T n K G L v]) X hZ (h_drop l D cI cZ cS cJ hl9 O k g a d w0 c f z V T n K G L v o ww x hz6 hf hOV) (vx_cwSW 3 hts gL_law_L_drop rfl rfl rfl (by decide +kernel) ⟨Nat.le_of_ble_eq_true rfl, Nat.le_of_ble_eq_true rfl⟩) hK hP hD hS hA rfl hl.1 rfl (Nat.le_of_ble_eq_true rfl) dL_law_320 ⟨by omega, by omega⟩ (fun uu H locs hq0 hP hD hS => ?_)
  obtain ⟨k9, c9, f9, z9, V9, w9⟩ := uu
  have hP : va_P D vwCl (List.flatten [mdO m0 m1 m2 m3 th (nI z) w0 (nI n) ca lt fi sd hs, arC cI m1 1170 (enc B), arC cI m2 60 T, arC cI m3 8 h, arJ cJ o w9, clP cI cZ cS O k g a d w0 c9 f9 z9 V9 T n K G L v]) _ := hP
  have hD : va_D A (List.flatten [mdO m0 m1 m2 m3 th (nI z) w0 (nI n) ca lt fi sd hs, arC cI m1 1170 (enc B), arC cI m2 60 T, arC cI m3 8 h, arJ cJ o w9, clP cI cZ cS O k g a d w0 c9 f9 z9 V9 T n K G L v]) := hD
  rw [hV0] at hq0
  refine lv_istore (lv' := [(5, .int k9), (0, .ref b), (1, .ref (O 0)), (2, .ref m0), (3, .ref o), (4, .int (nI (3 * t)))]) hx hb dL_law_323 hl (by decide) rfl (fun ls hl => ?_)
  refine lv_aload_n hx hb dL_law_325 rfl (lv_at hl 3 rfl) ?_
  refine lv_aload_n hx hb dL_law_326 rfl (lv_at hl 1 rfl) ?_
  refine lv_iload hx hb dL_law_327 (lv_at hl 5 rfl) ?_
  refine lv_iconst (v := 1) hx hb dL_law_329 (by decide) ?_
  refine lv_iadd hx hb dL_law_330 ?_
  refine lv_eqi (y := nI (3 * t + 1)) (nI_add _ _) ?_
  refine va_sld hx hb hX hbl hbA hS (vp_in_nI (n := 3 * t + 1) (N := Lx) (by omega) (by omega)) dL_law_331 ?_
  refine lv_eqi (y := x) (by rw [nI_clamp (by omega)]; exact ex) ?_
  refine kcallVE (As := [.int x]) (rest := []) (Wn := fun u => [mdO m0 m1 m2 m3 u.1 u.2.2.1 w0 (nI n) ca lt fi sd hs, arC cI m1 1170 (enc u.2.1), arC cI m2 60 T, arC cI m3 8 u.2.2.2.1, arJ cJ o w9, clP cI cZ cS O k g a d w0 c9 f9 z9 V9 T n K G L v]) X (c_X7_drop l D cI cZ cS cJ m0 m1 m2 m3 th w0 (nI n) ca lt fi sd hs B T h z x hz6 hO.1 hO.2.1) (cwV 1 hts gL_law_X7_drop rfl rfl rfl (by decide +kernel) ⟨Nat.le_of_ble_eq_true rfl, Nat.le_of_ble_eq_true rfl⟩) hK hP hD hS hA [0, 1, 2, 3] rfl (by decide +kernel) (fun _ => rfl) (fun _ => rfl) (fun _ => rfl) 0 7 rfl rfl rfl hl.1 rfl (Nat.le_of_ble_eq_true rfl) dL_law_332 ⟨by omega, by omega⟩ (fun uu H locs hu hP hD hS => ?_)
  obtain ⟨th9_1, B9_1, sv9_1, h9_1, r9_1⟩ := uu
  have hres_1 := hu
  have hP : va_P D vwCl (List.flatten [mdO m0 m1 m2 m3 th9_1 sv9_1 w0 (nI n) ca lt fi sd hs, arC cI m1 1170 (enc B9_1), arC cI m2 60 T, arC cI m3 8 h9_1, arJ cJ o w9, clP cI cZ cS O k g a d w0 c9 f9 z9 V9 T n K G L v]) _ := hP
  have hD : va_D A (List.flatten [mdO m0 m1 m2 m3 th9_1 sv9_1 w0 (nI n) ca lt fi sd hs, arC cI m1 1170 (enc B9_1), arC cI m2 60 T, arC cI m3 8 h9_1, arJ cJ o w9, clP cI cZ cS O k g a d w0 c9 f9 z9 V9 T n K G L v]) := hD
  obtain ⟨hIV, es, hth, hw⟩ := sv_step hI hq0 hres_1 (fun hK9 => GD_dro hI.2.2.2.1 hK9)
  subst es
  have hP : va_P D vwCl (List.flatten [mdO m0 m1 m2 m3 th9_1 (nI z9) w0 (nI n) ca lt fi sd hs, arC cI m1 1170 (enc B9_1), arC cI m2 60 T, arC cI m3 8 h9_1, arJ cJ o w9, clP cI cZ cS O k g a d w0 c9 f9 z9 V9 T n K G L v]) _ := hP
  have hD : va_D A (List.flatten [mdO m0 m1 m2 m3 th9_1 (nI z9) w0 (nI n) ca lt fi sd hs, arC cI m1 1170 (enc B9_1), arC cI m2 60 T, arC cI m3 8 h9_1, arJ cJ o w9, clP cI cZ cS O k g a d w0 c9 f9 z9 V9 T n K G L v]) := hD
  refine lv_istore (lv' := [(6, .int r9_1), (5, .int k9), (0, .ref b), (1, .ref (O 0)), (2, .ref m0), (3, .ref o), (4, .int (nI (3 * t)))]) hx hb dL_law_335 hl (by decide) rfl (fun ls hl => ?_)
  refine lv_aload_n hx hb dL_law_337 rfl (lv_at hl 4 rfl) ?_
  refine kcallV (As := []) (rest := []) (Wn := [mdO m0 m1 m2 m3 th9_1 (nI z9) w0 (nI n) ca lt fi sd hs, arC cI m1 1170 (enc B9_1), arC cI m2 60 T, arC cI m3 8 h9_1, arJ cJ o w9, clP cI cZ cS O k g a d w0 c9 f9 z9 V9 T n K G L v]) X (c_X7_thrown l D cI cZ cS cJ m0 m1 m2 m3 th9_1 (nI z9) w0 (nI n) ca lt fi sd hs B9_1 T h9_1) (cwV 0 hts gL_law_X7_thrown rfl rfl rfl (by decide +kernel) ⟨Nat.le_of_ble_eq_true rfl, Nat.le_of_ble_eq_true rfl⟩) hK hP hD hS hA [0, 1, 2, 3] rfl (by decide +kernel) rfl rfl rfl 0 7 rfl rfl rfl hl.1 rfl (Nat.le_of_ble_eq_true rfl) dL_law_338 ⟨by omega, by omega⟩ (fun H locs hP hD hS => ?_)
  refine lv_iload hx hb dL_law_341 (lv_at hl 1 rfl) ?_
  refine lv_icmp_eq (tgt := 348) hx hb dL_law_343 (by decide) (fun _ => ?_) (fun h => absurd hth h)
  refine lv_iload hx hb dL_law_348 (lv_at hl 1 rfl) ?_
  refine lv_if_ne (tgt := 365) hx hb dL_law_350 (by decide) (fun q9c => ?_) (fun q9c => ?_)
  · skip
    refine lv_goto (tgt := 1723) hx hb dL_law_365 (by decide) ?_
    refine W.widen (k := cells + 1) (n := slots + 6) (by omega) (by omega) ?_
    exact hk w0 c9 f9 z9 V9 T n K G L v w9 th9_1 ca lt fi sd hs B9_1 h9_1 hIV _ _ _ hP hD hS (lv_sub hl [2, 3, 4, 5, 6] rfl)
  · skip
    refine lv_aload_n hx hb dL_law_353 rfl (lv_at hl 5 rfl) ?_
    refine lv_iconst (v := 0) hx hb dL_law_354 (by decide) ?_
    refine va_lald hx hb hK hP 4 3 rfl rfl (vp_in_nI (n := 0) (N := 1) (by omega) (by omega)) dL_law_355 ?_
    refine lv_iload hx hb dL_law_356 (lv_at hl 0 rfl) ?_
    refine lv_i2l (v := r9_1.toInt64) hx hb dL_law_358 rfl ?_
    refine W.lcmp hx hb dL_law_359 ?_
    refine lv_if_eq (tgt := 365) hx hb dL_law_360 (by decide) (fun _ => ?_) (fun h => absurd (by rw [show w9 = _ from hw q9c]; exact lg_same _) h)
    refine lv_goto (tgt := 1723) hx hb dL_law_365 (by decide) ?_
    refine W.widen (k := cells + 1) (n := slots + 6) (by omega) (by omega) ?_
    exact hk w0 c9 f9 z9 V9 T n K G L v w9 th9_1 ca lt fi sd hs B9_1 h9_1 hIV _ _ _ hP hD hS (lv_sub hl [2, 3, 4, 5, 6] rfl)

set_option maxHeartbeats 4000000 in
set_option maxRecDepth 100000 in
theorem lw_put {p : Program} {e : Env} {s : State} {m : MethodId} {args : Array Value} {below : List Frame} {meth : Method} {cd : Code} {Q : State → Prop} {A : Nat → Prop} (l : Launch) (D : va_G) (cI cZ cS cJ : ClassId) (hl9 : l.stackTraces = false) (X : CallFix p m cd cL_law 9 s args wsL_law RL) (hZ : ZX A s) (hK : va_K D vwCl (tyL cI cZ cS cJ) s) (hA : ∀ q, s.heap.size ≤ q → A q) {b Lx : Nat} {xs : Nat → Int32} (hX : va_X b Lx xs s s.heap) (hbl : b < s.heap.size) (hbA : ¬ A b) (o m0 m1 m2 m3 : Nat) (O k g a d : Nat → Nat) (w0 : Int32) (c : Nat → Nat → Nat) (f : Nat → Option Nat) (z : Nat) (V : Nat → Nat → Nat → Int32) (T : Nat → Int32) (n : Nat) (K G : Nat → Nat → Int32) (L : Nat → Int32) (v : Int32) (ww : Int64) (th ca lt fi sd : Int32) (hs : Int64) (B : Nat → Nat → Nat → Int32) (h : Nat → Int32) (t cells slots : Nat) (ht : t < 600) (hLx : 3 * t + 2 < Lx) (hLx2 : Lx ≤ 1536) (hcs : cells + 1 ≤ room_1.cells ∧ slots + 6 ≤ room_1.slots) (hI : IV t w0 n c f z V B) (hk : KT 1723 p l e s m args below meth cd Q A D cI cZ cS cJ b o m0 m1 m2 m3 O k g a d t (cells + 1) (slots + 6)) (H : Heap) (locs : List Loc) (ls : Array Slot) (hP : va_P D vwCl (List.flatten (LW cI cZ cS cJ o m0 m1 m2 m3 O k g a d w0 c f z V T n K G L v ww th ca lt fi sd hs B h)) H) (hD : va_D A (List.flatten (LW cI cZ cS cJ o m0 m1 m2 m3 O k g a d w0 c f z V T n K G L v ww th ca lt fi sd hs B h))) (hS : va_S A s.heap H locs) (hl : lv_has ls 9 [(0, .ref b), (1, .ref (O 0)), (2, .ref m0), (3, .ref o), (4, .int (nI (3 * t)))]) : W p l e room_1 s m args below meth cd H locs cells slots Q (F0 m 368 ls []) := by
  obtain ⟨hx, hb, hml, hown, hts⟩ := id X
  have hO : OK (B 0) := hI.2.2.2.1.1
  have hz6 := hI.1.1
  have hn60 := hI.1.2.1
  have hf := hI.1.2.2
  have hV0 : V 0 = B 0 := hI.2.1
  have hOV : OK (V 0) := by rw [hV0]; exact hO
  obtain ⟨x, ex⟩ : ∃ x9, xs (3 * t + 1) = x9 := ⟨_, rfl⟩
  refine lv_aload_n hx hb dL_law_368 rfl (lv_at hl 1 rfl) ?_
  refine lv_aload_n hx hb dL_law_369 rfl (lv_at hl 0 rfl) ?_
  refine lv_iload hx hb dL_law_370 (lv_at hl 4 rfl) ?_
  refine lv_iconst (v := 1) hx hb dL_law_372 (by decide) ?_
  refine lv_iadd hx hb dL_law_373 ?_
  refine lv_eqi (y := nI (3 * t + 1)) (nI_add _ _) ?_
  refine va_sld hx hb hX hbl hbA hS (vp_in_nI (n := 3 * t + 1) (N := Lx) (by omega) (by omega)) dL_law_374 ?_
  refine lv_eqi (y := x) (by rw [nI_clamp (by omega)]; exact ex) ?_
  refine lv_aload_n hx hb dL_law_375 rfl (lv_at hl 3 rfl) ?_
  refine kcallHJ (U := (Int32) × (Nat → Nat → Nat) × (Nat → Option Nat) × (Nat) × (Nat → Nat → Nat → Int32) × (Int64)) (As := [.ref (O 0), .int x, .ref o]) (rest := []) (Wr := [mdO m0 m1 m2 m3 th (nI z) w0 (nI n) ca lt fi sd hs, arC cI m1 1170 (enc B), arC cI m2 60 T, arC cI m3 8 h]) (Wc := [arJ cJ o ww, clP cI cZ cS O k g a d w0 c f z V T n K G L v]) (Wo := fun u => [arJ cJ o u.2.2.2.2.2, clP cI cZ cS O k g a d w0 u.2.1 u.2.2.1 u.2.2.2.1 u.2.2.2.2.1 T n K G L v]) X hZ (h_put l D cI cZ cS cJ hl9 O k g a d w0 c f z V T n K G L v o ww x hz6 hf hOV) (vx_cwSW 3 hts gL_law_L_put rfl rfl rfl (by decide +kernel) ⟨Nat.le_of_ble_eq_true rfl, Nat.le_of_ble_eq_true rfl⟩) hK hP hD hS hA rfl hl.1 rfl (Nat.le_of_ble_eq_true rfl) dL_law_376 ⟨by omega, by omega⟩ (fun uu H locs hq0 hP hD hS => ?_)
  obtain ⟨k9, c9, f9, z9, V9, w9⟩ := uu
  have hP : va_P D vwCl (List.flatten [mdO m0 m1 m2 m3 th (nI z) w0 (nI n) ca lt fi sd hs, arC cI m1 1170 (enc B), arC cI m2 60 T, arC cI m3 8 h, arJ cJ o w9, clP cI cZ cS O k g a d w0 c9 f9 z9 V9 T n K G L v]) _ := hP
  have hD : va_D A (List.flatten [mdO m0 m1 m2 m3 th (nI z) w0 (nI n) ca lt fi sd hs, arC cI m1 1170 (enc B), arC cI m2 60 T, arC cI m3 8 h, arJ cJ o w9, clP cI cZ cS O k g a d w0 c9 f9 z9 V9 T n K G L v]) := hD
  rw [hV0] at hq0
  refine lv_istore (lv' := [(5, .int k9), (0, .ref b), (1, .ref (O 0)), (2, .ref m0), (3, .ref o), (4, .int (nI (3 * t)))]) hx hb dL_law_379 hl (by decide) rfl (fun ls hl => ?_)
  refine lv_aload_n hx hb dL_law_381 rfl (lv_at hl 3 rfl) ?_
  refine lv_aload_n hx hb dL_law_382 rfl (lv_at hl 1 rfl) ?_
  refine lv_iload hx hb dL_law_383 (lv_at hl 5 rfl) ?_
  refine lv_iconst (v := 1) hx hb dL_law_385 (by decide) ?_
  refine lv_iadd hx hb dL_law_386 ?_
  refine lv_eqi (y := nI (3 * t + 1)) (nI_add _ _) ?_
  refine va_sld hx hb hX hbl hbA hS (vp_in_nI (n := 3 * t + 1) (N := Lx) (by omega) (by omega)) dL_law_387 ?_
  refine lv_eqi (y := x) (by rw [nI_clamp (by omega)]; exact ex) ?_
  refine kcallVE (As := [.int x]) (rest := []) (Wn := fun u => [mdO m0 m1 m2 m3 u.1 u.2.2.1 w0 (nI n) ca lt fi sd hs, arC cI m1 1170 (enc u.2.1), arC cI m2 60 T, arC cI m3 8 u.2.2.2.1, arJ cJ o w9, clP cI cZ cS O k g a d w0 c9 f9 z9 V9 T n K G L v]) X (c_X7_put l D cI cZ cS cJ m0 m1 m2 m3 th w0 (nI n) ca lt fi sd hs B T h z x hz6 hO.1 hO.2.1) (cwV 1 hts gL_law_X7_put rfl rfl rfl (by decide +kernel) ⟨Nat.le_of_ble_eq_true rfl, Nat.le_of_ble_eq_true rfl⟩) hK hP hD hS hA [0, 1, 2, 3] rfl (by decide +kernel) (fun _ => rfl) (fun _ => rfl) (fun _ => rfl) 0 7 rfl rfl rfl hl.1 rfl (Nat.le_of_ble_eq_true rfl) dL_law_388 ⟨by omega, by omega⟩ (fun uu H locs hu hP hD hS => ?_)
  obtain ⟨th9_1, B9_1, sv9_1, h9_1, r9_1⟩ := uu
  have hres_1 := hu
  have hP : va_P D vwCl (List.flatten [mdO m0 m1 m2 m3 th9_1 sv9_1 w0 (nI n) ca lt fi sd hs, arC cI m1 1170 (enc B9_1), arC cI m2 60 T, arC cI m3 8 h9_1, arJ cJ o w9, clP cI cZ cS O k g a d w0 c9 f9 z9 V9 T n K G L v]) _ := hP
  have hD : va_D A (List.flatten [mdO m0 m1 m2 m3 th9_1 sv9_1 w0 (nI n) ca lt fi sd hs, arC cI m1 1170 (enc B9_1), arC cI m2 60 T, arC cI m3 8 h9_1, arJ cJ o w9, clP cI cZ cS O k g a d w0 c9 f9 z9 V9 T n K G L v]) := hD
  obtain ⟨hIV, es, hth, hw⟩ := sv_step hI hq0 hres_1 (fun hK9 => GD_put hI.2.2.2.1 hK9)
  subst es
  have hP : va_P D vwCl (List.flatten [mdO m0 m1 m2 m3 th9_1 (nI z9) w0 (nI n) ca lt fi sd hs, arC cI m1 1170 (enc B9_1), arC cI m2 60 T, arC cI m3 8 h9_1, arJ cJ o w9, clP cI cZ cS O k g a d w0 c9 f9 z9 V9 T n K G L v]) _ := hP
  have hD : va_D A (List.flatten [mdO m0 m1 m2 m3 th9_1 (nI z9) w0 (nI n) ca lt fi sd hs, arC cI m1 1170 (enc B9_1), arC cI m2 60 T, arC cI m3 8 h9_1, arJ cJ o w9, clP cI cZ cS O k g a d w0 c9 f9 z9 V9 T n K G L v]) := hD
  refine lv_istore (lv' := [(6, .int r9_1), (5, .int k9), (0, .ref b), (1, .ref (O 0)), (2, .ref m0), (3, .ref o), (4, .int (nI (3 * t)))]) hx hb dL_law_391 hl (by decide) rfl (fun ls hl => ?_)
  refine lv_aload_n hx hb dL_law_393 rfl (lv_at hl 4 rfl) ?_
  refine kcallV (As := []) (rest := []) (Wn := [mdO m0 m1 m2 m3 th9_1 (nI z9) w0 (nI n) ca lt fi sd hs, arC cI m1 1170 (enc B9_1), arC cI m2 60 T, arC cI m3 8 h9_1, arJ cJ o w9, clP cI cZ cS O k g a d w0 c9 f9 z9 V9 T n K G L v]) X (c_X7_thrown l D cI cZ cS cJ m0 m1 m2 m3 th9_1 (nI z9) w0 (nI n) ca lt fi sd hs B9_1 T h9_1) (cwV 0 hts gL_law_X7_thrown rfl rfl rfl (by decide +kernel) ⟨Nat.le_of_ble_eq_true rfl, Nat.le_of_ble_eq_true rfl⟩) hK hP hD hS hA [0, 1, 2, 3] rfl (by decide +kernel) rfl rfl rfl 0 7 rfl rfl rfl hl.1 rfl (Nat.le_of_ble_eq_true rfl) dL_law_394 ⟨by omega, by omega⟩ (fun H locs hP hD hS => ?_)
  refine lv_iload hx hb dL_law_397 (lv_at hl 1 rfl) ?_
  refine lv_icmp_eq (tgt := 404) hx hb dL_law_399 (by decide) (fun _ => ?_) (fun h => absurd hth h)
  refine lv_iload hx hb dL_law_404 (lv_at hl 1 rfl) ?_
  refine lv_if_ne (tgt := 421) hx hb dL_law_406 (by decide) (fun q9c => ?_) (fun q9c => ?_)
  · skip
    refine lv_goto (tgt := 1723) hx hb dL_law_421 (by decide) ?_
    refine W.widen (k := cells + 1) (n := slots + 6) (by omega) (by omega) ?_
    exact hk w0 c9 f9 z9 V9 T n K G L v w9 th9_1 ca lt fi sd hs B9_1 h9_1 hIV _ _ _ hP hD hS (lv_sub hl [2, 3, 4, 5, 6] rfl)
  · skip
    refine lv_aload_n hx hb dL_law_409 rfl (lv_at hl 5 rfl) ?_
    refine lv_iconst (v := 0) hx hb dL_law_410 (by decide) ?_
    refine va_lald hx hb hK hP 4 3 rfl rfl (vp_in_nI (n := 0) (N := 1) (by omega) (by omega)) dL_law_411 ?_
    refine lv_iload hx hb dL_law_412 (lv_at hl 0 rfl) ?_
    refine lv_i2l (v := r9_1.toInt64) hx hb dL_law_414 rfl ?_
    refine W.lcmp hx hb dL_law_415 ?_
    refine lv_if_eq (tgt := 421) hx hb dL_law_416 (by decide) (fun _ => ?_) (fun h => absurd (by rw [show w9 = _ from hw q9c]; exact lg_same _) h)
    refine lv_goto (tgt := 1723) hx hb dL_law_421 (by decide) ?_
    refine W.widen (k := cells + 1) (n := slots + 6) (by omega) (by omega) ?_
    exact hk w0 c9 f9 z9 V9 T n K G L v w9 th9_1 ca lt fi sd hs B9_1 h9_1 hIV _ _ _ hP hD hS (lv_sub hl [2, 3, 4, 5, 6] rfl)

set_option maxHeartbeats 4000000 in
set_option maxRecDepth 100000 in
theorem lw_leak {p : Program} {e : Env} {s : State} {m : MethodId} {args : Array Value} {below : List Frame} {meth : Method} {cd : Code} {Q : State → Prop} {A : Nat → Prop} (l : Launch) (D : va_G) (cI cZ cS cJ : ClassId) (hl9 : l.stackTraces = false) (X : CallFix p m cd cL_law 9 s args wsL_law RL) (hZ : ZX A s) (hK : va_K D vwCl (tyL cI cZ cS cJ) s) (hA : ∀ q, s.heap.size ≤ q → A q) {b Lx : Nat} {xs : Nat → Int32} (hX : va_X b Lx xs s s.heap) (hbl : b < s.heap.size) (hbA : ¬ A b) (o m0 m1 m2 m3 : Nat) (O k g a d : Nat → Nat) (w0 : Int32) (c : Nat → Nat → Nat) (f : Nat → Option Nat) (z : Nat) (V : Nat → Nat → Nat → Int32) (T : Nat → Int32) (n : Nat) (K G : Nat → Nat → Int32) (L : Nat → Int32) (v : Int32) (ww : Int64) (th ca lt fi sd : Int32) (hs : Int64) (B : Nat → Nat → Nat → Int32) (h : Nat → Int32) (t cells slots : Nat) (ht : t < 600) (hLx : 3 * t + 2 < Lx) (hLx2 : Lx ≤ 1536) (hcs : cells + 1 ≤ room_1.cells ∧ slots + 6 ≤ room_1.slots) (hI : IV t w0 n c f z V B) (hk : KT 1723 p l e s m args below meth cd Q A D cI cZ cS cJ b o m0 m1 m2 m3 O k g a d t (cells + 1) (slots + 6)) (H : Heap) (locs : List Loc) (ls : Array Slot) (hP : va_P D vwCl (List.flatten (LW cI cZ cS cJ o m0 m1 m2 m3 O k g a d w0 c f z V T n K G L v ww th ca lt fi sd hs B h)) H) (hD : va_D A (List.flatten (LW cI cZ cS cJ o m0 m1 m2 m3 O k g a d w0 c f z V T n K G L v ww th ca lt fi sd hs B h))) (hS : va_S A s.heap H locs) (hl : lv_has ls 9 [(0, .ref b), (1, .ref (O 0)), (2, .ref m0), (3, .ref o), (4, .int (nI (3 * t)))]) : W p l e room_1 s m args below meth cd H locs cells slots Q (F0 m 424 ls []) := by
  obtain ⟨hx, hb, hml, hown, hts⟩ := id X
  have hO : OK (B 0) := hI.2.2.2.1.1
  have hz6 := hI.1.1
  have hn60 := hI.1.2.1
  have hf := hI.1.2.2
  have hV0 : V 0 = B 0 := hI.2.1
  have hOV : OK (V 0) := by rw [hV0]; exact hO
  obtain ⟨x, ex⟩ : ∃ x9, xs (3 * t + 1) = x9 := ⟨_, rfl⟩
  obtain ⟨y, ey⟩ : ∃ x9, xs (3 * t + 2) = x9 := ⟨_, rfl⟩
  refine lv_aload_n hx hb dL_law_424 rfl (lv_at hl 1 rfl) ?_
  refine lv_aload_n hx hb dL_law_425 rfl (lv_at hl 0 rfl) ?_
  refine lv_iload hx hb dL_law_426 (lv_at hl 4 rfl) ?_
  refine lv_iconst (v := 1) hx hb dL_law_428 (by decide) ?_
  refine lv_iadd hx hb dL_law_429 ?_
  refine lv_eqi (y := nI (3 * t + 1)) (nI_add _ _) ?_
  refine va_sld hx hb hX hbl hbA hS (vp_in_nI (n := 3 * t + 1) (N := Lx) (by omega) (by omega)) dL_law_430 ?_
  refine lv_eqi (y := x) (by rw [nI_clamp (by omega)]; exact ex) ?_
  refine lv_aload_n hx hb dL_law_431 rfl (lv_at hl 0 rfl) ?_
  refine lv_iload hx hb dL_law_432 (lv_at hl 4 rfl) ?_
  refine lv_iconst (v := 2) hx hb dL_law_434 (by decide) ?_
  refine lv_iadd hx hb dL_law_435 ?_
  refine lv_eqi (y := nI (3 * t + 2)) (nI_add _ _) ?_
  refine va_sld hx hb hX hbl hbA hS (vp_in_nI (n := 3 * t + 2) (N := Lx) (by omega) (by omega)) dL_law_436 ?_
  refine lv_eqi (y := y) (by rw [nI_clamp (by omega)]; exact ey) ?_
  refine lv_aload_n hx hb dL_law_437 rfl (lv_at hl 3 rfl) ?_
  refine kcallHJ (U := (Int32) × (Nat → Nat → Nat) × (Nat → Option Nat) × (Nat) × (Nat → Nat → Nat → Int32) × (Int64)) (As := [.ref (O 0), .int x, .int y, .ref o]) (rest := []) (Wr := [mdO m0 m1 m2 m3 th (nI z) w0 (nI n) ca lt fi sd hs, arC cI m1 1170 (enc B), arC cI m2 60 T, arC cI m3 8 h]) (Wc := [arJ cJ o ww, clP cI cZ cS O k g a d w0 c f z V T n K G L v]) (Wo := fun u => [arJ cJ o u.2.2.2.2.2, clP cI cZ cS O k g a d w0 u.2.1 u.2.2.1 u.2.2.2.1 u.2.2.2.2.1 T n K G L v]) X hZ (h_leak l D cI cZ cS cJ hl9 O k g a d w0 c f z V T n K G L v o ww x y hz6 hf hOV) (vx_cwSW 4 hts gL_law_L_leak rfl rfl rfl (by decide +kernel) ⟨Nat.le_of_ble_eq_true rfl, Nat.le_of_ble_eq_true rfl⟩) hK hP hD hS hA rfl hl.1 rfl (Nat.le_of_ble_eq_true rfl) dL_law_438 ⟨by omega, by omega⟩ (fun uu H locs hq0 hP hD hS => ?_)
  obtain ⟨k9, c9, f9, z9, V9, w9⟩ := uu
  have hP : va_P D vwCl (List.flatten [mdO m0 m1 m2 m3 th (nI z) w0 (nI n) ca lt fi sd hs, arC cI m1 1170 (enc B), arC cI m2 60 T, arC cI m3 8 h, arJ cJ o w9, clP cI cZ cS O k g a d w0 c9 f9 z9 V9 T n K G L v]) _ := hP
  have hD : va_D A (List.flatten [mdO m0 m1 m2 m3 th (nI z) w0 (nI n) ca lt fi sd hs, arC cI m1 1170 (enc B), arC cI m2 60 T, arC cI m3 8 h, arJ cJ o w9, clP cI cZ cS O k g a d w0 c9 f9 z9 V9 T n K G L v]) := hD
  rw [hV0] at hq0
  refine lv_istore (lv' := [(5, .int k9), (0, .ref b), (1, .ref (O 0)), (2, .ref m0), (3, .ref o), (4, .int (nI (3 * t)))]) hx hb dL_law_441 hl (by decide) rfl (fun ls hl => ?_)
  refine lv_aload_n hx hb dL_law_443 rfl (lv_at hl 3 rfl) ?_
  refine lv_aload_n hx hb dL_law_444 rfl (lv_at hl 1 rfl) ?_
  refine lv_iload hx hb dL_law_445 (lv_at hl 5 rfl) ?_
  refine lv_iconst (v := 1) hx hb dL_law_447 (by decide) ?_
  refine lv_iadd hx hb dL_law_448 ?_
  refine lv_eqi (y := nI (3 * t + 1)) (nI_add _ _) ?_
  refine va_sld hx hb hX hbl hbA hS (vp_in_nI (n := 3 * t + 1) (N := Lx) (by omega) (by omega)) dL_law_449 ?_
  refine lv_eqi (y := x) (by rw [nI_clamp (by omega)]; exact ex) ?_
  refine lv_aload_n hx hb dL_law_450 rfl (lv_at hl 1 rfl) ?_
  refine lv_iload hx hb dL_law_451 (lv_at hl 5 rfl) ?_
  refine lv_iconst (v := 2) hx hb dL_law_453 (by decide) ?_
  refine lv_iadd hx hb dL_law_454 ?_
  refine lv_eqi (y := nI (3 * t + 2)) (nI_add _ _) ?_
  refine va_sld hx hb hX hbl hbA hS (vp_in_nI (n := 3 * t + 2) (N := Lx) (by omega) (by omega)) dL_law_455 ?_
  refine lv_eqi (y := y) (by rw [nI_clamp (by omega)]; exact ey) ?_
  refine kcallVE (As := [.int x, .int y]) (rest := []) (Wn := fun u => [mdO m0 m1 m2 m3 u.1 u.2.2.1 w0 (nI n) ca lt fi sd hs, arC cI m1 1170 (enc u.2.1), arC cI m2 60 T, arC cI m3 8 u.2.2.2.1, arJ cJ o w9, clP cI cZ cS O k g a d w0 c9 f9 z9 V9 T n K G L v]) X (c_X7_leak l D cI cZ cS cJ m0 m1 m2 m3 th w0 (nI n) ca lt fi sd hs B T h z x y hz6 hO.1 hO.2.1) (cwV 2 hts gL_law_X7_leak rfl rfl rfl (by decide +kernel) ⟨Nat.le_of_ble_eq_true rfl, Nat.le_of_ble_eq_true rfl⟩) hK hP hD hS hA [0, 1, 2, 3] rfl (by decide +kernel) (fun _ => rfl) (fun _ => rfl) (fun _ => rfl) 0 7 rfl rfl rfl hl.1 rfl (Nat.le_of_ble_eq_true rfl) dL_law_456 ⟨by omega, by omega⟩ (fun uu H locs hu hP hD hS => ?_)
  obtain ⟨th9_1, B9_1, sv9_1, h9_1, r9_1⟩ := uu
  have hres_1 := hu
  have hP : va_P D vwCl (List.flatten [mdO m0 m1 m2 m3 th9_1 sv9_1 w0 (nI n) ca lt fi sd hs, arC cI m1 1170 (enc B9_1), arC cI m2 60 T, arC cI m3 8 h9_1, arJ cJ o w9, clP cI cZ cS O k g a d w0 c9 f9 z9 V9 T n K G L v]) _ := hP
  have hD : va_D A (List.flatten [mdO m0 m1 m2 m3 th9_1 sv9_1 w0 (nI n) ca lt fi sd hs, arC cI m1 1170 (enc B9_1), arC cI m2 60 T, arC cI m3 8 h9_1, arJ cJ o w9, clP cI cZ cS O k g a d w0 c9 f9 z9 V9 T n K G L v]) := hD
  obtain ⟨hIV, es, hth, hw⟩ := sv_step hI hq0 hres_1 (fun hK9 => GD_lea hI.2.2.2.1 hK9)
  subst es
  have hP : va_P D vwCl (List.flatten [mdO m0 m1 m2 m3 th9_1 (nI z9) w0 (nI n) ca lt fi sd hs, arC cI m1 1170 (enc B9_1), arC cI m2 60 T, arC cI m3 8 h9_1, arJ cJ o w9, clP cI cZ cS O k g a d w0 c9 f9 z9 V9 T n K G L v]) _ := hP
  have hD : va_D A (List.flatten [mdO m0 m1 m2 m3 th9_1 (nI z9) w0 (nI n) ca lt fi sd hs, arC cI m1 1170 (enc B9_1), arC cI m2 60 T, arC cI m3 8 h9_1, arJ cJ o w9, clP cI cZ cS O k g a d w0 c9 f9 z9 V9 T n K G L v]) := hD
  refine lv_istore (lv' := [(6, .int r9_1), (5, .int k9), (0, .ref b), (1, .ref (O 0)), (2, .ref m0), (3, .ref o), (4, .int (nI (3 * t)))]) hx hb dL_law_459 hl (by decide) rfl (fun ls hl => ?_)
  refine lv_aload_n hx hb dL_law_461 rfl (lv_at hl 4 rfl) ?_
  refine kcallV (As := []) (rest := []) (Wn := [mdO m0 m1 m2 m3 th9_1 (nI z9) w0 (nI n) ca lt fi sd hs, arC cI m1 1170 (enc B9_1), arC cI m2 60 T, arC cI m3 8 h9_1, arJ cJ o w9, clP cI cZ cS O k g a d w0 c9 f9 z9 V9 T n K G L v]) X (c_X7_thrown l D cI cZ cS cJ m0 m1 m2 m3 th9_1 (nI z9) w0 (nI n) ca lt fi sd hs B9_1 T h9_1) (cwV 0 hts gL_law_X7_thrown rfl rfl rfl (by decide +kernel) ⟨Nat.le_of_ble_eq_true rfl, Nat.le_of_ble_eq_true rfl⟩) hK hP hD hS hA [0, 1, 2, 3] rfl (by decide +kernel) rfl rfl rfl 0 7 rfl rfl rfl hl.1 rfl (Nat.le_of_ble_eq_true rfl) dL_law_462 ⟨by omega, by omega⟩ (fun H locs hP hD hS => ?_)
  refine lv_iload hx hb dL_law_465 (lv_at hl 1 rfl) ?_
  refine lv_icmp_eq (tgt := 472) hx hb dL_law_467 (by decide) (fun _ => ?_) (fun h => absurd hth h)
  refine lv_iload hx hb dL_law_472 (lv_at hl 1 rfl) ?_
  refine lv_if_ne (tgt := 489) hx hb dL_law_474 (by decide) (fun q9c => ?_) (fun q9c => ?_)
  · skip
    refine lv_goto (tgt := 1723) hx hb dL_law_489 (by decide) ?_
    refine W.widen (k := cells + 1) (n := slots + 6) (by omega) (by omega) ?_
    exact hk w0 c9 f9 z9 V9 T n K G L v w9 th9_1 ca lt fi sd hs B9_1 h9_1 hIV _ _ _ hP hD hS (lv_sub hl [2, 3, 4, 5, 6] rfl)
  · skip
    refine lv_aload_n hx hb dL_law_477 rfl (lv_at hl 5 rfl) ?_
    refine lv_iconst (v := 0) hx hb dL_law_478 (by decide) ?_
    refine va_lald hx hb hK hP 4 3 rfl rfl (vp_in_nI (n := 0) (N := 1) (by omega) (by omega)) dL_law_479 ?_
    refine lv_iload hx hb dL_law_480 (lv_at hl 0 rfl) ?_
    refine lv_i2l (v := r9_1.toInt64) hx hb dL_law_482 rfl ?_
    refine W.lcmp hx hb dL_law_483 ?_
    refine lv_if_eq (tgt := 489) hx hb dL_law_484 (by decide) (fun _ => ?_) (fun h => absurd (by rw [show w9 = _ from hw q9c]; exact lg_same _) h)
    refine lv_goto (tgt := 1723) hx hb dL_law_489 (by decide) ?_
    refine W.widen (k := cells + 1) (n := slots + 6) (by omega) (by omega) ?_
    exact hk w0 c9 f9 z9 V9 T n K G L v w9 th9_1 ca lt fi sd hs B9_1 h9_1 hIV _ _ _ hP hD hS (lv_sub hl [2, 3, 4, 5, 6] rfl)

set_option maxHeartbeats 4000000 in
set_option maxRecDepth 100000 in
theorem lw_tie {p : Program} {e : Env} {s : State} {m : MethodId} {args : Array Value} {below : List Frame} {meth : Method} {cd : Code} {Q : State → Prop} {A : Nat → Prop} (l : Launch) (D : va_G) (cI cZ cS cJ : ClassId) (hl9 : l.stackTraces = false) (X : CallFix p m cd cL_law 9 s args wsL_law RL) (hZ : ZX A s) (hK : va_K D vwCl (tyL cI cZ cS cJ) s) (hA : ∀ q, s.heap.size ≤ q → A q) {b Lx : Nat} {xs : Nat → Int32} (hX : va_X b Lx xs s s.heap) (hbl : b < s.heap.size) (hbA : ¬ A b) (o m0 m1 m2 m3 : Nat) (O k g a d : Nat → Nat) (w0 : Int32) (c : Nat → Nat → Nat) (f : Nat → Option Nat) (z : Nat) (V : Nat → Nat → Nat → Int32) (T : Nat → Int32) (n : Nat) (K G : Nat → Nat → Int32) (L : Nat → Int32) (v : Int32) (ww : Int64) (th ca lt fi sd : Int32) (hs : Int64) (B : Nat → Nat → Nat → Int32) (h : Nat → Int32) (t cells slots : Nat) (ht : t < 600) (hLx : 3 * t + 2 < Lx) (hLx2 : Lx ≤ 1536) (hcs : cells + 1 ≤ room_1.cells ∧ slots + 6 ≤ room_1.slots) (hI : IV t w0 n c f z V B) (hk : KT 1723 p l e s m args below meth cd Q A D cI cZ cS cJ b o m0 m1 m2 m3 O k g a d t (cells + 1) (slots + 6)) (H : Heap) (locs : List Loc) (ls : Array Slot) (hP : va_P D vwCl (List.flatten (LW cI cZ cS cJ o m0 m1 m2 m3 O k g a d w0 c f z V T n K G L v ww th ca lt fi sd hs B h)) H) (hD : va_D A (List.flatten (LW cI cZ cS cJ o m0 m1 m2 m3 O k g a d w0 c f z V T n K G L v ww th ca lt fi sd hs B h))) (hS : va_S A s.heap H locs) (hl : lv_has ls 9 [(0, .ref b), (1, .ref (O 0)), (2, .ref m0), (3, .ref o), (4, .int (nI (3 * t)))]) : W p l e room_1 s m args below meth cd H locs cells slots Q (F0 m 492 ls []) := by
  obtain ⟨hx, hb, hml, hown, hts⟩ := id X
  have hO : OK (B 0) := hI.2.2.2.1.1
  have hz6 := hI.1.1
  have hn60 := hI.1.2.1
  have hf := hI.1.2.2
  have hV0 : V 0 = B 0 := hI.2.1
  have hOV : OK (V 0) := by rw [hV0]; exact hO
  obtain ⟨x, ex⟩ : ∃ x9, xs (3 * t + 1) = x9 := ⟨_, rfl⟩
  obtain ⟨y, ey⟩ : ∃ x9, xs (3 * t + 2) = x9 := ⟨_, rfl⟩
  refine lv_aload_n hx hb dL_law_492 rfl (lv_at hl 1 rfl) ?_
  refine lv_aload_n hx hb dL_law_493 rfl (lv_at hl 0 rfl) ?_
  refine lv_iload hx hb dL_law_494 (lv_at hl 4 rfl) ?_
  refine lv_iconst (v := 1) hx hb dL_law_496 (by decide) ?_
  refine lv_iadd hx hb dL_law_497 ?_
  refine lv_eqi (y := nI (3 * t + 1)) (nI_add _ _) ?_
  refine va_sld hx hb hX hbl hbA hS (vp_in_nI (n := 3 * t + 1) (N := Lx) (by omega) (by omega)) dL_law_498 ?_
  refine lv_eqi (y := x) (by rw [nI_clamp (by omega)]; exact ex) ?_
  refine lv_aload_n hx hb dL_law_499 rfl (lv_at hl 0 rfl) ?_
  refine lv_iload hx hb dL_law_500 (lv_at hl 4 rfl) ?_
  refine lv_iconst (v := 2) hx hb dL_law_502 (by decide) ?_
  refine lv_iadd hx hb dL_law_503 ?_
  refine lv_eqi (y := nI (3 * t + 2)) (nI_add _ _) ?_
  refine va_sld hx hb hX hbl hbA hS (vp_in_nI (n := 3 * t + 2) (N := Lx) (by omega) (by omega)) dL_law_504 ?_
  refine lv_eqi (y := y) (by rw [nI_clamp (by omega)]; exact ey) ?_
  refine lv_aload_n hx hb dL_law_505 rfl (lv_at hl 3 rfl) ?_
  refine kcallHJ (U := (Int32) × (Nat → Nat → Nat) × (Nat → Option Nat) × (Nat) × (Nat → Nat → Nat → Int32) × (Int64)) (As := [.ref (O 0), .int x, .int y, .ref o]) (rest := []) (Wr := [mdO m0 m1 m2 m3 th (nI z) w0 (nI n) ca lt fi sd hs, arC cI m1 1170 (enc B), arC cI m2 60 T, arC cI m3 8 h]) (Wc := [arJ cJ o ww, clP cI cZ cS O k g a d w0 c f z V T n K G L v]) (Wo := fun u => [arJ cJ o u.2.2.2.2.2, clP cI cZ cS O k g a d w0 u.2.1 u.2.2.1 u.2.2.2.1 u.2.2.2.2.1 T n K G L v]) X hZ (h_tie l D cI cZ cS cJ hl9 O k g a d w0 c f z V T n K G L v o ww x y hz6 hf hOV) (vx_cwSW 4 hts gL_law_L_tie rfl rfl rfl (by decide +kernel) ⟨Nat.le_of_ble_eq_true rfl, Nat.le_of_ble_eq_true rfl⟩) hK hP hD hS hA rfl hl.1 rfl (Nat.le_of_ble_eq_true rfl) dL_law_506 ⟨by omega, by omega⟩ (fun uu H locs hq0 hP hD hS => ?_)
  obtain ⟨k9, c9, f9, z9, V9, w9⟩ := uu
  have hP : va_P D vwCl (List.flatten [mdO m0 m1 m2 m3 th (nI z) w0 (nI n) ca lt fi sd hs, arC cI m1 1170 (enc B), arC cI m2 60 T, arC cI m3 8 h, arJ cJ o w9, clP cI cZ cS O k g a d w0 c9 f9 z9 V9 T n K G L v]) _ := hP
  have hD : va_D A (List.flatten [mdO m0 m1 m2 m3 th (nI z) w0 (nI n) ca lt fi sd hs, arC cI m1 1170 (enc B), arC cI m2 60 T, arC cI m3 8 h, arJ cJ o w9, clP cI cZ cS O k g a d w0 c9 f9 z9 V9 T n K G L v]) := hD
  rw [hV0] at hq0
  refine lv_istore (lv' := [(5, .int k9), (0, .ref b), (1, .ref (O 0)), (2, .ref m0), (3, .ref o), (4, .int (nI (3 * t)))]) hx hb dL_law_509 hl (by decide) rfl (fun ls hl => ?_)
  refine lv_aload_n hx hb dL_law_511 rfl (lv_at hl 3 rfl) ?_
  refine lv_aload_n hx hb dL_law_512 rfl (lv_at hl 1 rfl) ?_
  refine lv_iload hx hb dL_law_513 (lv_at hl 5 rfl) ?_
  refine lv_iconst (v := 1) hx hb dL_law_515 (by decide) ?_
  refine lv_iadd hx hb dL_law_516 ?_
  refine lv_eqi (y := nI (3 * t + 1)) (nI_add _ _) ?_
  refine va_sld hx hb hX hbl hbA hS (vp_in_nI (n := 3 * t + 1) (N := Lx) (by omega) (by omega)) dL_law_517 ?_
  refine lv_eqi (y := x) (by rw [nI_clamp (by omega)]; exact ex) ?_
  refine lv_aload_n hx hb dL_law_518 rfl (lv_at hl 1 rfl) ?_
  refine lv_iload hx hb dL_law_519 (lv_at hl 5 rfl) ?_
  refine lv_iconst (v := 2) hx hb dL_law_521 (by decide) ?_
  refine lv_iadd hx hb dL_law_522 ?_
  refine lv_eqi (y := nI (3 * t + 2)) (nI_add _ _) ?_
  refine va_sld hx hb hX hbl hbA hS (vp_in_nI (n := 3 * t + 2) (N := Lx) (by omega) (by omega)) dL_law_523 ?_
  refine lv_eqi (y := y) (by rw [nI_clamp (by omega)]; exact ey) ?_
  refine kcallVE (As := [.int x, .int y]) (rest := []) (Wn := fun u => [mdO m0 m1 m2 m3 u.1 u.2.2.1 w0 (nI n) ca lt fi sd hs, arC cI m1 1170 (enc u.2.1), arC cI m2 60 T, arC cI m3 8 u.2.2.2.1, arJ cJ o w9, clP cI cZ cS O k g a d w0 c9 f9 z9 V9 T n K G L v]) X (c_X7_tie l D cI cZ cS cJ m0 m1 m2 m3 th w0 (nI n) ca lt fi sd hs B T h z x y hz6 hO.1 hO.2.1) (cwV 2 hts gL_law_X7_tie rfl rfl rfl (by decide +kernel) ⟨Nat.le_of_ble_eq_true rfl, Nat.le_of_ble_eq_true rfl⟩) hK hP hD hS hA [0, 1, 2, 3] rfl (by decide +kernel) (fun _ => rfl) (fun _ => rfl) (fun _ => rfl) 0 7 rfl rfl rfl hl.1 rfl (Nat.le_of_ble_eq_true rfl) dL_law_524 ⟨by omega, by omega⟩ (fun uu H locs hu hP hD hS => ?_)
  obtain ⟨th9_1, B9_1, sv9_1, h9_1, r9_1⟩ := uu
  have hres_1 := hu
  have hP : va_P D vwCl (List.flatten [mdO m0 m1 m2 m3 th9_1 sv9_1 w0 (nI n) ca lt fi sd hs, arC cI m1 1170 (enc B9_1), arC cI m2 60 T, arC cI m3 8 h9_1, arJ cJ o w9, clP cI cZ cS O k g a d w0 c9 f9 z9 V9 T n K G L v]) _ := hP
  have hD : va_D A (List.flatten [mdO m0 m1 m2 m3 th9_1 sv9_1 w0 (nI n) ca lt fi sd hs, arC cI m1 1170 (enc B9_1), arC cI m2 60 T, arC cI m3 8 h9_1, arJ cJ o w9, clP cI cZ cS O k g a d w0 c9 f9 z9 V9 T n K G L v]) := hD
  obtain ⟨hIV, es, hth, hw⟩ := sv_step hI hq0 hres_1 (fun hK9 => GD_tie hI.2.2.2.1 hK9)
  subst es
  have hP : va_P D vwCl (List.flatten [mdO m0 m1 m2 m3 th9_1 (nI z9) w0 (nI n) ca lt fi sd hs, arC cI m1 1170 (enc B9_1), arC cI m2 60 T, arC cI m3 8 h9_1, arJ cJ o w9, clP cI cZ cS O k g a d w0 c9 f9 z9 V9 T n K G L v]) _ := hP
  have hD : va_D A (List.flatten [mdO m0 m1 m2 m3 th9_1 (nI z9) w0 (nI n) ca lt fi sd hs, arC cI m1 1170 (enc B9_1), arC cI m2 60 T, arC cI m3 8 h9_1, arJ cJ o w9, clP cI cZ cS O k g a d w0 c9 f9 z9 V9 T n K G L v]) := hD
  refine lv_istore (lv' := [(6, .int r9_1), (5, .int k9), (0, .ref b), (1, .ref (O 0)), (2, .ref m0), (3, .ref o), (4, .int (nI (3 * t)))]) hx hb dL_law_527 hl (by decide) rfl (fun ls hl => ?_)
  refine lv_aload_n hx hb dL_law_529 rfl (lv_at hl 4 rfl) ?_
  refine kcallV (As := []) (rest := []) (Wn := [mdO m0 m1 m2 m3 th9_1 (nI z9) w0 (nI n) ca lt fi sd hs, arC cI m1 1170 (enc B9_1), arC cI m2 60 T, arC cI m3 8 h9_1, arJ cJ o w9, clP cI cZ cS O k g a d w0 c9 f9 z9 V9 T n K G L v]) X (c_X7_thrown l D cI cZ cS cJ m0 m1 m2 m3 th9_1 (nI z9) w0 (nI n) ca lt fi sd hs B9_1 T h9_1) (cwV 0 hts gL_law_X7_thrown rfl rfl rfl (by decide +kernel) ⟨Nat.le_of_ble_eq_true rfl, Nat.le_of_ble_eq_true rfl⟩) hK hP hD hS hA [0, 1, 2, 3] rfl (by decide +kernel) rfl rfl rfl 0 7 rfl rfl rfl hl.1 rfl (Nat.le_of_ble_eq_true rfl) dL_law_530 ⟨by omega, by omega⟩ (fun H locs hP hD hS => ?_)
  refine lv_iload hx hb dL_law_533 (lv_at hl 1 rfl) ?_
  refine lv_icmp_eq (tgt := 540) hx hb dL_law_535 (by decide) (fun _ => ?_) (fun h => absurd hth h)
  refine lv_iload hx hb dL_law_540 (lv_at hl 1 rfl) ?_
  refine lv_if_ne (tgt := 557) hx hb dL_law_542 (by decide) (fun q9c => ?_) (fun q9c => ?_)
  · skip
    refine lv_goto (tgt := 1723) hx hb dL_law_557 (by decide) ?_
    refine W.widen (k := cells + 1) (n := slots + 6) (by omega) (by omega) ?_
    exact hk w0 c9 f9 z9 V9 T n K G L v w9 th9_1 ca lt fi sd hs B9_1 h9_1 hIV _ _ _ hP hD hS (lv_sub hl [2, 3, 4, 5, 6] rfl)
  · skip
    refine lv_aload_n hx hb dL_law_545 rfl (lv_at hl 5 rfl) ?_
    refine lv_iconst (v := 0) hx hb dL_law_546 (by decide) ?_
    refine va_lald hx hb hK hP 4 3 rfl rfl (vp_in_nI (n := 0) (N := 1) (by omega) (by omega)) dL_law_547 ?_
    refine lv_iload hx hb dL_law_548 (lv_at hl 0 rfl) ?_
    refine lv_i2l (v := r9_1.toInt64) hx hb dL_law_550 rfl ?_
    refine W.lcmp hx hb dL_law_551 ?_
    refine lv_if_eq (tgt := 557) hx hb dL_law_552 (by decide) (fun _ => ?_) (fun h => absurd (by rw [show w9 = _ from hw q9c]; exact lg_same _) h)
    refine lv_goto (tgt := 1723) hx hb dL_law_557 (by decide) ?_
    refine W.widen (k := cells + 1) (n := slots + 6) (by omega) (by omega) ?_
    exact hk w0 c9 f9 z9 V9 T n K G L v w9 th9_1 ca lt fi sd hs B9_1 h9_1 hIV _ _ _ hP hD hS (lv_sub hl [2, 3, 4, 5, 6] rfl)

set_option maxHeartbeats 4000000 in
set_option maxRecDepth 100000 in
theorem lw_cut {p : Program} {e : Env} {s : State} {m : MethodId} {args : Array Value} {below : List Frame} {meth : Method} {cd : Code} {Q : State → Prop} {A : Nat → Prop} (l : Launch) (D : va_G) (cI cZ cS cJ : ClassId) (hl9 : l.stackTraces = false) (X : CallFix p m cd cL_law 9 s args wsL_law RL) (hZ : ZX A s) (hK : va_K D vwCl (tyL cI cZ cS cJ) s) (hA : ∀ q, s.heap.size ≤ q → A q) {b Lx : Nat} {xs : Nat → Int32} (hX : va_X b Lx xs s s.heap) (hbl : b < s.heap.size) (hbA : ¬ A b) (o m0 m1 m2 m3 : Nat) (O k g a d : Nat → Nat) (w0 : Int32) (c : Nat → Nat → Nat) (f : Nat → Option Nat) (z : Nat) (V : Nat → Nat → Nat → Int32) (T : Nat → Int32) (n : Nat) (K G : Nat → Nat → Int32) (L : Nat → Int32) (v : Int32) (ww : Int64) (th ca lt fi sd : Int32) (hs : Int64) (B : Nat → Nat → Nat → Int32) (h : Nat → Int32) (t cells slots : Nat) (ht : t < 600) (hLx : 3 * t + 2 < Lx) (hLx2 : Lx ≤ 1536) (hcs : cells + 1 ≤ room_1.cells ∧ slots + 6 ≤ room_1.slots) (hI : IV t w0 n c f z V B) (hk : KT 1723 p l e s m args below meth cd Q A D cI cZ cS cJ b o m0 m1 m2 m3 O k g a d t (cells + 1) (slots + 6)) (H : Heap) (locs : List Loc) (ls : Array Slot) (hP : va_P D vwCl (List.flatten (LW cI cZ cS cJ o m0 m1 m2 m3 O k g a d w0 c f z V T n K G L v ww th ca lt fi sd hs B h)) H) (hD : va_D A (List.flatten (LW cI cZ cS cJ o m0 m1 m2 m3 O k g a d w0 c f z V T n K G L v ww th ca lt fi sd hs B h))) (hS : va_S A s.heap H locs) (hl : lv_has ls 9 [(0, .ref b), (1, .ref (O 0)), (2, .ref m0), (3, .ref o), (4, .int (nI (3 * t)))]) : W p l e room_1 s m args below meth cd H locs cells slots Q (F0 m 560 ls []) := by
  obtain ⟨hx, hb, hml, hown, hts⟩ := id X
  have hO : OK (B 0) := hI.2.2.2.1.1
  have hz6 := hI.1.1
  have hn60 := hI.1.2.1
  have hf := hI.1.2.2
  have hV0 : V 0 = B 0 := hI.2.1
  have hOV : OK (V 0) := by rw [hV0]; exact hO
  obtain ⟨x, ex⟩ : ∃ x9, xs (3 * t + 1) = x9 := ⟨_, rfl⟩
  refine lv_aload_n hx hb dL_law_560 rfl (lv_at hl 1 rfl) ?_
  refine lv_aload_n hx hb dL_law_561 rfl (lv_at hl 0 rfl) ?_
  refine lv_iload hx hb dL_law_562 (lv_at hl 4 rfl) ?_
  refine lv_iconst (v := 1) hx hb dL_law_564 (by decide) ?_
  refine lv_iadd hx hb dL_law_565 ?_
  refine lv_eqi (y := nI (3 * t + 1)) (nI_add _ _) ?_
  refine va_sld hx hb hX hbl hbA hS (vp_in_nI (n := 3 * t + 1) (N := Lx) (by omega) (by omega)) dL_law_566 ?_
  refine lv_eqi (y := x) (by rw [nI_clamp (by omega)]; exact ex) ?_
  refine lv_aload_n hx hb dL_law_567 rfl (lv_at hl 3 rfl) ?_
  refine kcallHJ (U := (Int32) × (Nat → Nat → Nat) × (Nat → Option Nat) × (Nat) × (Nat → Nat → Nat → Int32) × (Int64)) (As := [.ref (O 0), .int x, .ref o]) (rest := []) (Wr := [mdO m0 m1 m2 m3 th (nI z) w0 (nI n) ca lt fi sd hs, arC cI m1 1170 (enc B), arC cI m2 60 T, arC cI m3 8 h]) (Wc := [arJ cJ o ww, clP cI cZ cS O k g a d w0 c f z V T n K G L v]) (Wo := fun u => [arJ cJ o u.2.2.2.2.2, clP cI cZ cS O k g a d w0 u.2.1 u.2.2.1 u.2.2.2.1 u.2.2.2.2.1 T n K G L v]) X hZ (h_cut l D cI cZ cS cJ hl9 O k g a d w0 c f z V T n K G L v o ww x hz6 hf hOV) (vx_cwSW 3 hts gL_law_L_cut rfl rfl rfl (by decide +kernel) ⟨Nat.le_of_ble_eq_true rfl, Nat.le_of_ble_eq_true rfl⟩) hK hP hD hS hA rfl hl.1 rfl (Nat.le_of_ble_eq_true rfl) dL_law_568 ⟨by omega, by omega⟩ (fun uu H locs hq0 hP hD hS => ?_)
  obtain ⟨k9, c9, f9, z9, V9, w9⟩ := uu
  have hP : va_P D vwCl (List.flatten [mdO m0 m1 m2 m3 th (nI z) w0 (nI n) ca lt fi sd hs, arC cI m1 1170 (enc B), arC cI m2 60 T, arC cI m3 8 h, arJ cJ o w9, clP cI cZ cS O k g a d w0 c9 f9 z9 V9 T n K G L v]) _ := hP
  have hD : va_D A (List.flatten [mdO m0 m1 m2 m3 th (nI z) w0 (nI n) ca lt fi sd hs, arC cI m1 1170 (enc B), arC cI m2 60 T, arC cI m3 8 h, arJ cJ o w9, clP cI cZ cS O k g a d w0 c9 f9 z9 V9 T n K G L v]) := hD
  rw [hV0] at hq0
  refine lv_istore (lv' := [(5, .int k9), (0, .ref b), (1, .ref (O 0)), (2, .ref m0), (3, .ref o), (4, .int (nI (3 * t)))]) hx hb dL_law_571 hl (by decide) rfl (fun ls hl => ?_)
  refine lv_aload_n hx hb dL_law_573 rfl (lv_at hl 3 rfl) ?_
  refine lv_aload_n hx hb dL_law_574 rfl (lv_at hl 1 rfl) ?_
  refine lv_iload hx hb dL_law_575 (lv_at hl 5 rfl) ?_
  refine lv_iconst (v := 1) hx hb dL_law_577 (by decide) ?_
  refine lv_iadd hx hb dL_law_578 ?_
  refine lv_eqi (y := nI (3 * t + 1)) (nI_add _ _) ?_
  refine va_sld hx hb hX hbl hbA hS (vp_in_nI (n := 3 * t + 1) (N := Lx) (by omega) (by omega)) dL_law_579 ?_
  refine lv_eqi (y := x) (by rw [nI_clamp (by omega)]; exact ex) ?_
  refine kcallVE (As := [.int x]) (rest := []) (Wn := fun u => [mdO m0 m1 m2 m3 u.1 u.2.2.1 w0 (nI n) ca lt fi sd hs, arC cI m1 1170 (enc u.2.1), arC cI m2 60 T, arC cI m3 8 u.2.2.2.1, arJ cJ o w9, clP cI cZ cS O k g a d w0 c9 f9 z9 V9 T n K G L v]) X (c_X7_cut l D cI cZ cS cJ m0 m1 m2 m3 th w0 (nI n) ca lt fi sd hs B T h z x hz6 hO.1 hO.2.1) (cwV 1 hts gL_law_X7_cut rfl rfl rfl (by decide +kernel) ⟨Nat.le_of_ble_eq_true rfl, Nat.le_of_ble_eq_true rfl⟩) hK hP hD hS hA [0, 1, 2, 3] rfl (by decide +kernel) (fun _ => rfl) (fun _ => rfl) (fun _ => rfl) 0 7 rfl rfl rfl hl.1 rfl (Nat.le_of_ble_eq_true rfl) dL_law_580 ⟨by omega, by omega⟩ (fun uu H locs hu hP hD hS => ?_)
  obtain ⟨th9_1, B9_1, sv9_1, h9_1, r9_1⟩ := uu
  have hres_1 := hu
  have hP : va_P D vwCl (List.flatten [mdO m0 m1 m2 m3 th9_1 sv9_1 w0 (nI n) ca lt fi sd hs, arC cI m1 1170 (enc B9_1), arC cI m2 60 T, arC cI m3 8 h9_1, arJ cJ o w9, clP cI cZ cS O k g a d w0 c9 f9 z9 V9 T n K G L v]) _ := hP
  have hD : va_D A (List.flatten [mdO m0 m1 m2 m3 th9_1 sv9_1 w0 (nI n) ca lt fi sd hs, arC cI m1 1170 (enc B9_1), arC cI m2 60 T, arC cI m3 8 h9_1, arJ cJ o w9, clP cI cZ cS O k g a d w0 c9 f9 z9 V9 T n K G L v]) := hD
  obtain ⟨hIV, es, hth, hw⟩ := sv_step hI hq0 hres_1 (fun hK9 => GD_cut hI.2.2.2.1)
  subst es
  have hP : va_P D vwCl (List.flatten [mdO m0 m1 m2 m3 th9_1 (nI z9) w0 (nI n) ca lt fi sd hs, arC cI m1 1170 (enc B9_1), arC cI m2 60 T, arC cI m3 8 h9_1, arJ cJ o w9, clP cI cZ cS O k g a d w0 c9 f9 z9 V9 T n K G L v]) _ := hP
  have hD : va_D A (List.flatten [mdO m0 m1 m2 m3 th9_1 (nI z9) w0 (nI n) ca lt fi sd hs, arC cI m1 1170 (enc B9_1), arC cI m2 60 T, arC cI m3 8 h9_1, arJ cJ o w9, clP cI cZ cS O k g a d w0 c9 f9 z9 V9 T n K G L v]) := hD
  refine lv_istore (lv' := [(6, .int r9_1), (5, .int k9), (0, .ref b), (1, .ref (O 0)), (2, .ref m0), (3, .ref o), (4, .int (nI (3 * t)))]) hx hb dL_law_583 hl (by decide) rfl (fun ls hl => ?_)
  refine lv_aload_n hx hb dL_law_585 rfl (lv_at hl 4 rfl) ?_
  refine kcallV (As := []) (rest := []) (Wn := [mdO m0 m1 m2 m3 th9_1 (nI z9) w0 (nI n) ca lt fi sd hs, arC cI m1 1170 (enc B9_1), arC cI m2 60 T, arC cI m3 8 h9_1, arJ cJ o w9, clP cI cZ cS O k g a d w0 c9 f9 z9 V9 T n K G L v]) X (c_X7_thrown l D cI cZ cS cJ m0 m1 m2 m3 th9_1 (nI z9) w0 (nI n) ca lt fi sd hs B9_1 T h9_1) (cwV 0 hts gL_law_X7_thrown rfl rfl rfl (by decide +kernel) ⟨Nat.le_of_ble_eq_true rfl, Nat.le_of_ble_eq_true rfl⟩) hK hP hD hS hA [0, 1, 2, 3] rfl (by decide +kernel) rfl rfl rfl 0 7 rfl rfl rfl hl.1 rfl (Nat.le_of_ble_eq_true rfl) dL_law_586 ⟨by omega, by omega⟩ (fun H locs hP hD hS => ?_)
  refine lv_iload hx hb dL_law_589 (lv_at hl 1 rfl) ?_
  refine lv_icmp_eq (tgt := 596) hx hb dL_law_591 (by decide) (fun _ => ?_) (fun h => absurd hth h)
  refine lv_iload hx hb dL_law_596 (lv_at hl 1 rfl) ?_
  refine lv_if_ne (tgt := 613) hx hb dL_law_598 (by decide) (fun q9c => ?_) (fun q9c => ?_)
  · skip
    refine lv_goto (tgt := 1723) hx hb dL_law_613 (by decide) ?_
    refine W.widen (k := cells + 1) (n := slots + 6) (by omega) (by omega) ?_
    exact hk w0 c9 f9 z9 V9 T n K G L v w9 th9_1 ca lt fi sd hs B9_1 h9_1 hIV _ _ _ hP hD hS (lv_sub hl [2, 3, 4, 5, 6] rfl)
  · skip
    refine lv_aload_n hx hb dL_law_601 rfl (lv_at hl 5 rfl) ?_
    refine lv_iconst (v := 0) hx hb dL_law_602 (by decide) ?_
    refine va_lald hx hb hK hP 4 3 rfl rfl (vp_in_nI (n := 0) (N := 1) (by omega) (by omega)) dL_law_603 ?_
    refine lv_iload hx hb dL_law_604 (lv_at hl 0 rfl) ?_
    refine lv_i2l (v := r9_1.toInt64) hx hb dL_law_606 rfl ?_
    refine W.lcmp hx hb dL_law_607 ?_
    refine lv_if_eq (tgt := 613) hx hb dL_law_608 (by decide) (fun _ => ?_) (fun h => absurd (by rw [show w9 = _ from hw q9c]; exact lg_same _) h)
    refine lv_goto (tgt := 1723) hx hb dL_law_613 (by decide) ?_
    refine W.widen (k := cells + 1) (n := slots + 6) (by omega) (by omega) ?_
    exact hk w0 c9 f9 z9 V9 T n K G L v w9 th9_1 ca lt fi sd hs B9_1 h9_1 hIV _ _ _ hP hD hS (lv_sub hl [2, 3, 4, 5, 6] rfl)

set_option maxHeartbeats 4000000 in
set_option maxRecDepth 100000 in
theorem lw_bear {p : Program} {e : Env} {s : State} {m : MethodId} {args : Array Value} {below : List Frame} {meth : Method} {cd : Code} {Q : State → Prop} {A : Nat → Prop} (l : Launch) (D : va_G) (cI cZ cS cJ : ClassId) (hl9 : l.stackTraces = false) (X : CallFix p m cd cL_law 9 s args wsL_law RL) (hZ : ZX A s) (hK : va_K D vwCl (tyL cI cZ cS cJ) s) (hA : ∀ q, s.heap.size ≤ q → A q) {b Lx : Nat} {xs : Nat → Int32} (hX : va_X b Lx xs s s.heap) (hbl : b < s.heap.size) (hbA : ¬ A b) (o m0 m1 m2 m3 : Nat) (O k g a d : Nat → Nat) (w0 : Int32) (c : Nat → Nat → Nat) (f : Nat → Option Nat) (z : Nat) (V : Nat → Nat → Nat → Int32) (T : Nat → Int32) (n : Nat) (K G : Nat → Nat → Int32) (L : Nat → Int32) (v : Int32) (ww : Int64) (th ca lt fi sd : Int32) (hs : Int64) (B : Nat → Nat → Nat → Int32) (h : Nat → Int32) (t cells slots : Nat) (ht : t < 600) (hLx : 3 * t + 2 < Lx) (hLx2 : Lx ≤ 1536) (hcs : cells + 1 ≤ room_1.cells ∧ slots + 6 ≤ room_1.slots) (hI : IV t w0 n c f z V B) (hk : KT 1723 p l e s m args below meth cd Q A D cI cZ cS cJ b o m0 m1 m2 m3 O k g a d t (cells + 1) (slots + 6)) (H : Heap) (locs : List Loc) (ls : Array Slot) (hP : va_P D vwCl (List.flatten (LW cI cZ cS cJ o m0 m1 m2 m3 O k g a d w0 c f z V T n K G L v ww th ca lt fi sd hs B h)) H) (hD : va_D A (List.flatten (LW cI cZ cS cJ o m0 m1 m2 m3 O k g a d w0 c f z V T n K G L v ww th ca lt fi sd hs B h))) (hS : va_S A s.heap H locs) (hl : lv_has ls 9 [(0, .ref b), (1, .ref (O 0)), (2, .ref m0), (3, .ref o), (4, .int (nI (3 * t)))]) : W p l e room_1 s m args below meth cd H locs cells slots Q (F0 m 616 ls []) := by
  obtain ⟨hx, hb, hml, hown, hts⟩ := id X
  have hO : OK (B 0) := hI.2.2.2.1.1
  have hz6 := hI.1.1
  have hn60 := hI.1.2.1
  have hf := hI.1.2.2
  have hV0 : V 0 = B 0 := hI.2.1
  have hOV : OK (V 0) := by rw [hV0]; exact hO
  obtain ⟨x, ex⟩ : ∃ x9, xs (3 * t + 1) = x9 := ⟨_, rfl⟩
  obtain ⟨y, ey⟩ : ∃ x9, xs (3 * t + 2) = x9 := ⟨_, rfl⟩
  refine lv_aload_n hx hb dL_law_616 rfl (lv_at hl 1 rfl) ?_
  refine lv_aload_n hx hb dL_law_617 rfl (lv_at hl 0 rfl) ?_
  refine lv_iload hx hb dL_law_618 (lv_at hl 4 rfl) ?_
  refine lv_iconst (v := 1) hx hb dL_law_620 (by decide) ?_
  refine lv_iadd hx hb dL_law_621 ?_
  refine lv_eqi (y := nI (3 * t + 1)) (nI_add _ _) ?_
  refine va_sld hx hb hX hbl hbA hS (vp_in_nI (n := 3 * t + 1) (N := Lx) (by omega) (by omega)) dL_law_622 ?_
  refine lv_eqi (y := x) (by rw [nI_clamp (by omega)]; exact ex) ?_
  refine lv_aload_n hx hb dL_law_623 rfl (lv_at hl 0 rfl) ?_
  refine lv_iload hx hb dL_law_624 (lv_at hl 4 rfl) ?_
  refine lv_iconst (v := 2) hx hb dL_law_626 (by decide) ?_
  refine lv_iadd hx hb dL_law_627 ?_
  refine lv_eqi (y := nI (3 * t + 2)) (nI_add _ _) ?_
  refine va_sld hx hb hX hbl hbA hS (vp_in_nI (n := 3 * t + 2) (N := Lx) (by omega) (by omega)) dL_law_628 ?_
  refine lv_eqi (y := y) (by rw [nI_clamp (by omega)]; exact ey) ?_
  refine lv_aload_n hx hb dL_law_629 rfl (lv_at hl 3 rfl) ?_
  refine kcallHJ (U := (Int32) × (Nat → Nat → Nat) × (Nat → Option Nat) × (Nat) × (Nat → Nat → Nat → Int32) × (Int64)) (As := [.ref (O 0), .int x, .int y, .ref o]) (rest := []) (Wr := [mdO m0 m1 m2 m3 th (nI z) w0 (nI n) ca lt fi sd hs, arC cI m1 1170 (enc B), arC cI m2 60 T, arC cI m3 8 h]) (Wc := [arJ cJ o ww, clP cI cZ cS O k g a d w0 c f z V T n K G L v]) (Wo := fun u => [arJ cJ o u.2.2.2.2.2, clP cI cZ cS O k g a d w0 u.2.1 u.2.2.1 u.2.2.2.1 u.2.2.2.2.1 T n K G L v]) X hZ (h_bear l D cI cZ cS cJ hl9 O k g a d w0 c f z V T n K G L v o ww x y hz6 hf hOV) (vx_cwSW 4 hts gL_law_L_bear rfl rfl rfl (by decide +kernel) ⟨Nat.le_of_ble_eq_true rfl, Nat.le_of_ble_eq_true rfl⟩) hK hP hD hS hA rfl hl.1 rfl (Nat.le_of_ble_eq_true rfl) dL_law_630 ⟨by omega, by omega⟩ (fun uu H locs hq0 hP hD hS => ?_)
  obtain ⟨k9, c9, f9, z9, V9, w9⟩ := uu
  have hP : va_P D vwCl (List.flatten [mdO m0 m1 m2 m3 th (nI z) w0 (nI n) ca lt fi sd hs, arC cI m1 1170 (enc B), arC cI m2 60 T, arC cI m3 8 h, arJ cJ o w9, clP cI cZ cS O k g a d w0 c9 f9 z9 V9 T n K G L v]) _ := hP
  have hD : va_D A (List.flatten [mdO m0 m1 m2 m3 th (nI z) w0 (nI n) ca lt fi sd hs, arC cI m1 1170 (enc B), arC cI m2 60 T, arC cI m3 8 h, arJ cJ o w9, clP cI cZ cS O k g a d w0 c9 f9 z9 V9 T n K G L v]) := hD
  rw [hV0] at hq0
  refine lv_istore (lv' := [(5, .int k9), (0, .ref b), (1, .ref (O 0)), (2, .ref m0), (3, .ref o), (4, .int (nI (3 * t)))]) hx hb dL_law_633 hl (by decide) rfl (fun ls hl => ?_)
  refine lv_aload_n hx hb dL_law_635 rfl (lv_at hl 3 rfl) ?_
  refine lv_aload_n hx hb dL_law_636 rfl (lv_at hl 1 rfl) ?_
  refine lv_iload hx hb dL_law_637 (lv_at hl 5 rfl) ?_
  refine lv_iconst (v := 1) hx hb dL_law_639 (by decide) ?_
  refine lv_iadd hx hb dL_law_640 ?_
  refine lv_eqi (y := nI (3 * t + 1)) (nI_add _ _) ?_
  refine va_sld hx hb hX hbl hbA hS (vp_in_nI (n := 3 * t + 1) (N := Lx) (by omega) (by omega)) dL_law_641 ?_
  refine lv_eqi (y := x) (by rw [nI_clamp (by omega)]; exact ex) ?_
  refine lv_aload_n hx hb dL_law_642 rfl (lv_at hl 1 rfl) ?_
  refine lv_iload hx hb dL_law_643 (lv_at hl 5 rfl) ?_
  refine lv_iconst (v := 2) hx hb dL_law_645 (by decide) ?_
  refine lv_iadd hx hb dL_law_646 ?_
  refine lv_eqi (y := nI (3 * t + 2)) (nI_add _ _) ?_
  refine va_sld hx hb hX hbl hbA hS (vp_in_nI (n := 3 * t + 2) (N := Lx) (by omega) (by omega)) dL_law_647 ?_
  refine lv_eqi (y := y) (by rw [nI_clamp (by omega)]; exact ey) ?_
  refine kcallVE (As := [.int x, .int y]) (rest := []) (Wn := fun u => [mdO m0 m1 m2 m3 u.1 u.2.2.1 w0 (nI n) ca lt fi sd hs, arC cI m1 1170 (enc u.2.1), arC cI m2 60 T, arC cI m3 8 u.2.2.2.1, arJ cJ o w9, clP cI cZ cS O k g a d w0 c9 f9 z9 V9 T n K G L v]) X (c_X7_bear l D cI cZ cS cJ m0 m1 m2 m3 th w0 (nI n) ca lt fi sd hs B T h z x y hz6 hO.1 hO.2.1) (cwV 2 hts gL_law_X7_bear rfl rfl rfl (by decide +kernel) ⟨Nat.le_of_ble_eq_true rfl, Nat.le_of_ble_eq_true rfl⟩) hK hP hD hS hA [0, 1, 2, 3] rfl (by decide +kernel) (fun _ => rfl) (fun _ => rfl) (fun _ => rfl) 0 7 rfl rfl rfl hl.1 rfl (Nat.le_of_ble_eq_true rfl) dL_law_648 ⟨by omega, by omega⟩ (fun uu H locs hu hP hD hS => ?_)
  obtain ⟨th9_1, B9_1, sv9_1, h9_1, r9_1⟩ := uu
  have hres_1 := hu
  have hP : va_P D vwCl (List.flatten [mdO m0 m1 m2 m3 th9_1 sv9_1 w0 (nI n) ca lt fi sd hs, arC cI m1 1170 (enc B9_1), arC cI m2 60 T, arC cI m3 8 h9_1, arJ cJ o w9, clP cI cZ cS O k g a d w0 c9 f9 z9 V9 T n K G L v]) _ := hP
  have hD : va_D A (List.flatten [mdO m0 m1 m2 m3 th9_1 sv9_1 w0 (nI n) ca lt fi sd hs, arC cI m1 1170 (enc B9_1), arC cI m2 60 T, arC cI m3 8 h9_1, arJ cJ o w9, clP cI cZ cS O k g a d w0 c9 f9 z9 V9 T n K G L v]) := hD
  obtain ⟨hIV, es, hth, hw⟩ := sv_step hI hq0 hres_1 (fun hK9 => GD_bea hI.2.2.2.1 hK9)
  subst es
  have hP : va_P D vwCl (List.flatten [mdO m0 m1 m2 m3 th9_1 (nI z9) w0 (nI n) ca lt fi sd hs, arC cI m1 1170 (enc B9_1), arC cI m2 60 T, arC cI m3 8 h9_1, arJ cJ o w9, clP cI cZ cS O k g a d w0 c9 f9 z9 V9 T n K G L v]) _ := hP
  have hD : va_D A (List.flatten [mdO m0 m1 m2 m3 th9_1 (nI z9) w0 (nI n) ca lt fi sd hs, arC cI m1 1170 (enc B9_1), arC cI m2 60 T, arC cI m3 8 h9_1, arJ cJ o w9, clP cI cZ cS O k g a d w0 c9 f9 z9 V9 T n K G L v]) := hD
  refine lv_istore (lv' := [(6, .int r9_1), (5, .int k9), (0, .ref b), (1, .ref (O 0)), (2, .ref m0), (3, .ref o), (4, .int (nI (3 * t)))]) hx hb dL_law_651 hl (by decide) rfl (fun ls hl => ?_)
  refine lv_aload_n hx hb dL_law_653 rfl (lv_at hl 4 rfl) ?_
  refine kcallV (As := []) (rest := []) (Wn := [mdO m0 m1 m2 m3 th9_1 (nI z9) w0 (nI n) ca lt fi sd hs, arC cI m1 1170 (enc B9_1), arC cI m2 60 T, arC cI m3 8 h9_1, arJ cJ o w9, clP cI cZ cS O k g a d w0 c9 f9 z9 V9 T n K G L v]) X (c_X7_thrown l D cI cZ cS cJ m0 m1 m2 m3 th9_1 (nI z9) w0 (nI n) ca lt fi sd hs B9_1 T h9_1) (cwV 0 hts gL_law_X7_thrown rfl rfl rfl (by decide +kernel) ⟨Nat.le_of_ble_eq_true rfl, Nat.le_of_ble_eq_true rfl⟩) hK hP hD hS hA [0, 1, 2, 3] rfl (by decide +kernel) rfl rfl rfl 0 7 rfl rfl rfl hl.1 rfl (Nat.le_of_ble_eq_true rfl) dL_law_654 ⟨by omega, by omega⟩ (fun H locs hP hD hS => ?_)
  refine lv_iload hx hb dL_law_657 (lv_at hl 1 rfl) ?_
  refine lv_icmp_eq (tgt := 664) hx hb dL_law_659 (by decide) (fun _ => ?_) (fun h => absurd hth h)
  refine lv_iload hx hb dL_law_664 (lv_at hl 1 rfl) ?_
  refine lv_if_ne (tgt := 681) hx hb dL_law_666 (by decide) (fun q9c => ?_) (fun q9c => ?_)
  · skip
    refine lv_goto (tgt := 1723) hx hb dL_law_681 (by decide) ?_
    refine W.widen (k := cells + 1) (n := slots + 6) (by omega) (by omega) ?_
    exact hk w0 c9 f9 z9 V9 T n K G L v w9 th9_1 ca lt fi sd hs B9_1 h9_1 hIV _ _ _ hP hD hS (lv_sub hl [2, 3, 4, 5, 6] rfl)
  · skip
    refine lv_aload_n hx hb dL_law_669 rfl (lv_at hl 5 rfl) ?_
    refine lv_iconst (v := 0) hx hb dL_law_670 (by decide) ?_
    refine va_lald hx hb hK hP 4 3 rfl rfl (vp_in_nI (n := 0) (N := 1) (by omega) (by omega)) dL_law_671 ?_
    refine lv_iload hx hb dL_law_672 (lv_at hl 0 rfl) ?_
    refine lv_i2l (v := r9_1.toInt64) hx hb dL_law_674 rfl ?_
    refine W.lcmp hx hb dL_law_675 ?_
    refine lv_if_eq (tgt := 681) hx hb dL_law_676 (by decide) (fun _ => ?_) (fun h => absurd (by rw [show w9 = _ from hw q9c]; exact lg_same _) h)
    refine lv_goto (tgt := 1723) hx hb dL_law_681 (by decide) ?_
    refine W.widen (k := cells + 1) (n := slots + 6) (by omega) (by omega) ?_
    exact hk w0 c9 f9 z9 V9 T n K G L v w9 th9_1 ca lt fi sd hs B9_1 h9_1 hIV _ _ _ hP hD hS (lv_sub hl [2, 3, 4, 5, 6] rfl)

set_option maxHeartbeats 4000000 in
set_option maxRecDepth 100000 in
theorem lw_tune {p : Program} {e : Env} {s : State} {m : MethodId} {args : Array Value} {below : List Frame} {meth : Method} {cd : Code} {Q : State → Prop} {A : Nat → Prop} (l : Launch) (D : va_G) (cI cZ cS cJ : ClassId) (hl9 : l.stackTraces = false) (X : CallFix p m cd cL_law 9 s args wsL_law RL) (hZ : ZX A s) (hK : va_K D vwCl (tyL cI cZ cS cJ) s) (hA : ∀ q, s.heap.size ≤ q → A q) {b Lx : Nat} {xs : Nat → Int32} (hX : va_X b Lx xs s s.heap) (hbl : b < s.heap.size) (hbA : ¬ A b) (o m0 m1 m2 m3 : Nat) (O k g a d : Nat → Nat) (w0 : Int32) (c : Nat → Nat → Nat) (f : Nat → Option Nat) (z : Nat) (V : Nat → Nat → Nat → Int32) (T : Nat → Int32) (n : Nat) (K G : Nat → Nat → Int32) (L : Nat → Int32) (v : Int32) (ww : Int64) (th ca lt fi sd : Int32) (hs : Int64) (B : Nat → Nat → Nat → Int32) (h : Nat → Int32) (t cells slots : Nat) (ht : t < 600) (hLx : 3 * t + 2 < Lx) (hLx2 : Lx ≤ 1536) (hcs : cells + 1 ≤ room_1.cells ∧ slots + 6 ≤ room_1.slots) (hI : IV t w0 n c f z V B) (hk : KT 1723 p l e s m args below meth cd Q A D cI cZ cS cJ b o m0 m1 m2 m3 O k g a d t (cells + 1) (slots + 6)) (H : Heap) (locs : List Loc) (ls : Array Slot) (hP : va_P D vwCl (List.flatten (LW cI cZ cS cJ o m0 m1 m2 m3 O k g a d w0 c f z V T n K G L v ww th ca lt fi sd hs B h)) H) (hD : va_D A (List.flatten (LW cI cZ cS cJ o m0 m1 m2 m3 O k g a d w0 c f z V T n K G L v ww th ca lt fi sd hs B h))) (hS : va_S A s.heap H locs) (hl : lv_has ls 9 [(0, .ref b), (1, .ref (O 0)), (2, .ref m0), (3, .ref o), (4, .int (nI (3 * t)))]) : W p l e room_1 s m args below meth cd H locs cells slots Q (F0 m 684 ls []) := by
  obtain ⟨hx, hb, hml, hown, hts⟩ := id X
  have hO : OK (B 0) := hI.2.2.2.1.1
  have hz6 := hI.1.1
  have hn60 := hI.1.2.1
  have hf := hI.1.2.2
  have hV0 : V 0 = B 0 := hI.2.1
  have hOV : OK (V 0) := by rw [hV0]; exact hO
  obtain ⟨x, ex⟩ : ∃ x9, xs (3 * t + 1) = x9 := ⟨_, rfl⟩
  obtain ⟨y, ey⟩ : ∃ x9, xs (3 * t + 2) = x9 := ⟨_, rfl⟩
  refine lv_aload_n hx hb dL_law_684 rfl (lv_at hl 1 rfl) ?_
  refine lv_aload_n hx hb dL_law_685 rfl (lv_at hl 0 rfl) ?_
  refine lv_iload hx hb dL_law_686 (lv_at hl 4 rfl) ?_
  refine lv_iconst (v := 1) hx hb dL_law_688 (by decide) ?_
  refine lv_iadd hx hb dL_law_689 ?_
  refine lv_eqi (y := nI (3 * t + 1)) (nI_add _ _) ?_
  refine va_sld hx hb hX hbl hbA hS (vp_in_nI (n := 3 * t + 1) (N := Lx) (by omega) (by omega)) dL_law_690 ?_
  refine lv_eqi (y := x) (by rw [nI_clamp (by omega)]; exact ex) ?_
  refine lv_aload_n hx hb dL_law_691 rfl (lv_at hl 0 rfl) ?_
  refine lv_iload hx hb dL_law_692 (lv_at hl 4 rfl) ?_
  refine lv_iconst (v := 2) hx hb dL_law_694 (by decide) ?_
  refine lv_iadd hx hb dL_law_695 ?_
  refine lv_eqi (y := nI (3 * t + 2)) (nI_add _ _) ?_
  refine va_sld hx hb hX hbl hbA hS (vp_in_nI (n := 3 * t + 2) (N := Lx) (by omega) (by omega)) dL_law_696 ?_
  refine lv_eqi (y := y) (by rw [nI_clamp (by omega)]; exact ey) ?_
  refine lv_aload_n hx hb dL_law_697 rfl (lv_at hl 3 rfl) ?_
  refine kcallHJ (U := (Int32) × (Nat → Nat → Nat) × (Nat → Option Nat) × (Nat) × (Nat → Nat → Nat → Int32) × (Int64)) (As := [.ref (O 0), .int x, .int y, .ref o]) (rest := []) (Wr := [mdO m0 m1 m2 m3 th (nI z) w0 (nI n) ca lt fi sd hs, arC cI m1 1170 (enc B), arC cI m2 60 T, arC cI m3 8 h]) (Wc := [arJ cJ o ww, clP cI cZ cS O k g a d w0 c f z V T n K G L v]) (Wo := fun u => [arJ cJ o u.2.2.2.2.2, clP cI cZ cS O k g a d w0 u.2.1 u.2.2.1 u.2.2.2.1 u.2.2.2.2.1 T n K G L v]) X hZ (h_tune l D cI cZ cS cJ hl9 O k g a d w0 c f z V T n K G L v o ww x y hz6 hf hOV) (vx_cwSW 4 hts gL_law_L_tune rfl rfl rfl (by decide +kernel) ⟨Nat.le_of_ble_eq_true rfl, Nat.le_of_ble_eq_true rfl⟩) hK hP hD hS hA rfl hl.1 rfl (Nat.le_of_ble_eq_true rfl) dL_law_698 ⟨by omega, by omega⟩ (fun uu H locs hq0 hP hD hS => ?_)
  obtain ⟨k9, c9, f9, z9, V9, w9⟩ := uu
  have hP : va_P D vwCl (List.flatten [mdO m0 m1 m2 m3 th (nI z) w0 (nI n) ca lt fi sd hs, arC cI m1 1170 (enc B), arC cI m2 60 T, arC cI m3 8 h, arJ cJ o w9, clP cI cZ cS O k g a d w0 c9 f9 z9 V9 T n K G L v]) _ := hP
  have hD : va_D A (List.flatten [mdO m0 m1 m2 m3 th (nI z) w0 (nI n) ca lt fi sd hs, arC cI m1 1170 (enc B), arC cI m2 60 T, arC cI m3 8 h, arJ cJ o w9, clP cI cZ cS O k g a d w0 c9 f9 z9 V9 T n K G L v]) := hD
  rw [hV0] at hq0
  refine lv_istore (lv' := [(5, .int k9), (0, .ref b), (1, .ref (O 0)), (2, .ref m0), (3, .ref o), (4, .int (nI (3 * t)))]) hx hb dL_law_701 hl (by decide) rfl (fun ls hl => ?_)
  refine lv_aload_n hx hb dL_law_703 rfl (lv_at hl 3 rfl) ?_
  refine lv_aload_n hx hb dL_law_704 rfl (lv_at hl 1 rfl) ?_
  refine lv_iload hx hb dL_law_705 (lv_at hl 5 rfl) ?_
  refine lv_iconst (v := 1) hx hb dL_law_707 (by decide) ?_
  refine lv_iadd hx hb dL_law_708 ?_
  refine lv_eqi (y := nI (3 * t + 1)) (nI_add _ _) ?_
  refine va_sld hx hb hX hbl hbA hS (vp_in_nI (n := 3 * t + 1) (N := Lx) (by omega) (by omega)) dL_law_709 ?_
  refine lv_eqi (y := x) (by rw [nI_clamp (by omega)]; exact ex) ?_
  refine lv_aload_n hx hb dL_law_710 rfl (lv_at hl 1 rfl) ?_
  refine lv_iload hx hb dL_law_711 (lv_at hl 5 rfl) ?_
  refine lv_iconst (v := 2) hx hb dL_law_713 (by decide) ?_
  refine lv_iadd hx hb dL_law_714 ?_
  refine lv_eqi (y := nI (3 * t + 2)) (nI_add _ _) ?_
  refine va_sld hx hb hX hbl hbA hS (vp_in_nI (n := 3 * t + 2) (N := Lx) (by omega) (by omega)) dL_law_715 ?_
  refine lv_eqi (y := y) (by rw [nI_clamp (by omega)]; exact ey) ?_
  refine kcallVE (As := [.int x, .int y]) (rest := []) (Wn := fun u => [mdO m0 m1 m2 m3 u.1 u.2.2.1 w0 (nI n) ca lt fi sd hs, arC cI m1 1170 (enc u.2.1), arC cI m2 60 T, arC cI m3 8 u.2.2.2.1, arJ cJ o w9, clP cI cZ cS O k g a d w0 c9 f9 z9 V9 T n K G L v]) X (c_X7_tune l D cI cZ cS cJ m0 m1 m2 m3 th w0 (nI n) ca lt fi sd hs B T h z x y hz6 hO.1 hO.2.1) (cwV 2 hts gL_law_X7_tune rfl rfl rfl (by decide +kernel) ⟨Nat.le_of_ble_eq_true rfl, Nat.le_of_ble_eq_true rfl⟩) hK hP hD hS hA [0, 1, 2, 3] rfl (by decide +kernel) (fun _ => rfl) (fun _ => rfl) (fun _ => rfl) 0 7 rfl rfl rfl hl.1 rfl (Nat.le_of_ble_eq_true rfl) dL_law_716 ⟨by omega, by omega⟩ (fun uu H locs hu hP hD hS => ?_)
  obtain ⟨th9_1, B9_1, sv9_1, h9_1, r9_1⟩ := uu
  have hres_1 := hu
  have hP : va_P D vwCl (List.flatten [mdO m0 m1 m2 m3 th9_1 sv9_1 w0 (nI n) ca lt fi sd hs, arC cI m1 1170 (enc B9_1), arC cI m2 60 T, arC cI m3 8 h9_1, arJ cJ o w9, clP cI cZ cS O k g a d w0 c9 f9 z9 V9 T n K G L v]) _ := hP
  have hD : va_D A (List.flatten [mdO m0 m1 m2 m3 th9_1 sv9_1 w0 (nI n) ca lt fi sd hs, arC cI m1 1170 (enc B9_1), arC cI m2 60 T, arC cI m3 8 h9_1, arJ cJ o w9, clP cI cZ cS O k g a d w0 c9 f9 z9 V9 T n K G L v]) := hD
  obtain ⟨hIV, es, hth, hw⟩ := sv_step hI hq0 hres_1 (fun hK9 => GD_tun hI.2.2.2.1)
  subst es
  have hP : va_P D vwCl (List.flatten [mdO m0 m1 m2 m3 th9_1 (nI z9) w0 (nI n) ca lt fi sd hs, arC cI m1 1170 (enc B9_1), arC cI m2 60 T, arC cI m3 8 h9_1, arJ cJ o w9, clP cI cZ cS O k g a d w0 c9 f9 z9 V9 T n K G L v]) _ := hP
  have hD : va_D A (List.flatten [mdO m0 m1 m2 m3 th9_1 (nI z9) w0 (nI n) ca lt fi sd hs, arC cI m1 1170 (enc B9_1), arC cI m2 60 T, arC cI m3 8 h9_1, arJ cJ o w9, clP cI cZ cS O k g a d w0 c9 f9 z9 V9 T n K G L v]) := hD
  refine lv_istore (lv' := [(6, .int r9_1), (5, .int k9), (0, .ref b), (1, .ref (O 0)), (2, .ref m0), (3, .ref o), (4, .int (nI (3 * t)))]) hx hb dL_law_719 hl (by decide) rfl (fun ls hl => ?_)
  refine lv_aload_n hx hb dL_law_721 rfl (lv_at hl 4 rfl) ?_
  refine kcallV (As := []) (rest := []) (Wn := [mdO m0 m1 m2 m3 th9_1 (nI z9) w0 (nI n) ca lt fi sd hs, arC cI m1 1170 (enc B9_1), arC cI m2 60 T, arC cI m3 8 h9_1, arJ cJ o w9, clP cI cZ cS O k g a d w0 c9 f9 z9 V9 T n K G L v]) X (c_X7_thrown l D cI cZ cS cJ m0 m1 m2 m3 th9_1 (nI z9) w0 (nI n) ca lt fi sd hs B9_1 T h9_1) (cwV 0 hts gL_law_X7_thrown rfl rfl rfl (by decide +kernel) ⟨Nat.le_of_ble_eq_true rfl, Nat.le_of_ble_eq_true rfl⟩) hK hP hD hS hA [0, 1, 2, 3] rfl (by decide +kernel) rfl rfl rfl 0 7 rfl rfl rfl hl.1 rfl (Nat.le_of_ble_eq_true rfl) dL_law_722 ⟨by omega, by omega⟩ (fun H locs hP hD hS => ?_)
  refine lv_iload hx hb dL_law_725 (lv_at hl 1 rfl) ?_
  refine lv_icmp_eq (tgt := 732) hx hb dL_law_727 (by decide) (fun _ => ?_) (fun h => absurd hth h)
  refine lv_iload hx hb dL_law_732 (lv_at hl 1 rfl) ?_
  refine lv_if_ne (tgt := 749) hx hb dL_law_734 (by decide) (fun q9c => ?_) (fun q9c => ?_)
  · skip
    refine lv_goto (tgt := 1723) hx hb dL_law_749 (by decide) ?_
    refine W.widen (k := cells + 1) (n := slots + 6) (by omega) (by omega) ?_
    exact hk w0 c9 f9 z9 V9 T n K G L v w9 th9_1 ca lt fi sd hs B9_1 h9_1 hIV _ _ _ hP hD hS (lv_sub hl [2, 3, 4, 5, 6] rfl)
  · skip
    refine lv_aload_n hx hb dL_law_737 rfl (lv_at hl 5 rfl) ?_
    refine lv_iconst (v := 0) hx hb dL_law_738 (by decide) ?_
    refine va_lald hx hb hK hP 4 3 rfl rfl (vp_in_nI (n := 0) (N := 1) (by omega) (by omega)) dL_law_739 ?_
    refine lv_iload hx hb dL_law_740 (lv_at hl 0 rfl) ?_
    refine lv_i2l (v := r9_1.toInt64) hx hb dL_law_742 rfl ?_
    refine W.lcmp hx hb dL_law_743 ?_
    refine lv_if_eq (tgt := 749) hx hb dL_law_744 (by decide) (fun _ => ?_) (fun h => absurd (by rw [show w9 = _ from hw q9c]; exact lg_same _) h)
    refine lv_goto (tgt := 1723) hx hb dL_law_749 (by decide) ?_
    refine W.widen (k := cells + 1) (n := slots + 6) (by omega) (by omega) ?_
    exact hk w0 c9 f9 z9 V9 T n K G L v w9 th9_1 ca lt fi sd hs B9_1 h9_1 hIV _ _ _ hP hD hS (lv_sub hl [2, 3, 4, 5, 6] rfl)

set_option maxHeartbeats 4000000 in
set_option maxRecDepth 100000 in
theorem lw_note {p : Program} {e : Env} {s : State} {m : MethodId} {args : Array Value} {below : List Frame} {meth : Method} {cd : Code} {Q : State → Prop} {A : Nat → Prop} (l : Launch) (D : va_G) (cI cZ cS cJ : ClassId) (hl9 : l.stackTraces = false) (X : CallFix p m cd cL_law 9 s args wsL_law RL) (hZ : ZX A s) (hK : va_K D vwCl (tyL cI cZ cS cJ) s) (hA : ∀ q, s.heap.size ≤ q → A q) {b Lx : Nat} {xs : Nat → Int32} (hX : va_X b Lx xs s s.heap) (hbl : b < s.heap.size) (hbA : ¬ A b) (o m0 m1 m2 m3 : Nat) (O k g a d : Nat → Nat) (w0 : Int32) (c : Nat → Nat → Nat) (f : Nat → Option Nat) (z : Nat) (V : Nat → Nat → Nat → Int32) (T : Nat → Int32) (n : Nat) (K G : Nat → Nat → Int32) (L : Nat → Int32) (v : Int32) (ww : Int64) (th ca lt fi sd : Int32) (hs : Int64) (B : Nat → Nat → Nat → Int32) (h : Nat → Int32) (t cells slots : Nat) (ht : t < 600) (hLx : 3 * t + 2 < Lx) (hLx2 : Lx ≤ 1536) (hcs : cells + 1 ≤ room_1.cells ∧ slots + 6 ≤ room_1.slots) (hI : IV t w0 n c f z V B) (hk : KT 1723 p l e s m args below meth cd Q A D cI cZ cS cJ b o m0 m1 m2 m3 O k g a d t (cells + 1) (slots + 6)) (H : Heap) (locs : List Loc) (ls : Array Slot) (hP : va_P D vwCl (List.flatten (LW cI cZ cS cJ o m0 m1 m2 m3 O k g a d w0 c f z V T n K G L v ww th ca lt fi sd hs B h)) H) (hD : va_D A (List.flatten (LW cI cZ cS cJ o m0 m1 m2 m3 O k g a d w0 c f z V T n K G L v ww th ca lt fi sd hs B h))) (hS : va_S A s.heap H locs) (hl : lv_has ls 9 [(0, .ref b), (1, .ref (O 0)), (2, .ref m0), (3, .ref o), (4, .int (nI (3 * t)))]) : W p l e room_1 s m args below meth cd H locs cells slots Q (F0 m 752 ls []) := by
  obtain ⟨hx, hb, hml, hown, hts⟩ := id X
  have hO : OK (B 0) := hI.2.2.2.1.1
  have hz6 := hI.1.1
  have hn60 := hI.1.2.1
  have hf := hI.1.2.2
  have hV0 : V 0 = B 0 := hI.2.1
  have hOV : OK (V 0) := by rw [hV0]; exact hO
  obtain ⟨x, ex⟩ : ∃ x9, xs (3 * t + 1) = x9 := ⟨_, rfl⟩
  refine lv_aload_n hx hb dL_law_752 rfl (lv_at hl 1 rfl) ?_
  refine lv_aload_n hx hb dL_law_753 rfl (lv_at hl 0 rfl) ?_
  refine lv_iload hx hb dL_law_754 (lv_at hl 4 rfl) ?_
  refine lv_iconst (v := 1) hx hb dL_law_756 (by decide) ?_
  refine lv_iadd hx hb dL_law_757 ?_
  refine lv_eqi (y := nI (3 * t + 1)) (nI_add _ _) ?_
  refine va_sld hx hb hX hbl hbA hS (vp_in_nI (n := 3 * t + 1) (N := Lx) (by omega) (by omega)) dL_law_758 ?_
  refine lv_eqi (y := x) (by rw [nI_clamp (by omega)]; exact ex) ?_
  refine lv_aload_n hx hb dL_law_759 rfl (lv_at hl 3 rfl) ?_
  refine kcallHJ (U := (Int32) × (Nat → Nat → Nat) × (Nat → Option Nat) × (Nat) × (Nat → Nat → Nat → Int32) × (Int64)) (As := [.ref (O 0), .int x, .ref o]) (rest := []) (Wr := [mdO m0 m1 m2 m3 th (nI z) w0 (nI n) ca lt fi sd hs, arC cI m1 1170 (enc B), arC cI m2 60 T, arC cI m3 8 h]) (Wc := [arJ cJ o ww, clP cI cZ cS O k g a d w0 c f z V T n K G L v]) (Wo := fun u => [arJ cJ o u.2.2.2.2.2, clP cI cZ cS O k g a d w0 u.2.1 u.2.2.1 u.2.2.2.1 u.2.2.2.2.1 T n K G L v]) X hZ (h_note l D cI cZ cS cJ hl9 O k g a d w0 c f z V T n K G L v o ww x hz6 hf hOV) (vx_cwSW 3 hts gL_law_L_note rfl rfl rfl (by decide +kernel) ⟨Nat.le_of_ble_eq_true rfl, Nat.le_of_ble_eq_true rfl⟩) hK hP hD hS hA rfl hl.1 rfl (Nat.le_of_ble_eq_true rfl) dL_law_760 ⟨by omega, by omega⟩ (fun uu H locs hq0 hP hD hS => ?_)
  obtain ⟨k9, c9, f9, z9, V9, w9⟩ := uu
  have hP : va_P D vwCl (List.flatten [mdO m0 m1 m2 m3 th (nI z) w0 (nI n) ca lt fi sd hs, arC cI m1 1170 (enc B), arC cI m2 60 T, arC cI m3 8 h, arJ cJ o w9, clP cI cZ cS O k g a d w0 c9 f9 z9 V9 T n K G L v]) _ := hP
  have hD : va_D A (List.flatten [mdO m0 m1 m2 m3 th (nI z) w0 (nI n) ca lt fi sd hs, arC cI m1 1170 (enc B), arC cI m2 60 T, arC cI m3 8 h, arJ cJ o w9, clP cI cZ cS O k g a d w0 c9 f9 z9 V9 T n K G L v]) := hD
  rw [hV0] at hq0
  refine lv_istore (lv' := [(5, .int k9), (0, .ref b), (1, .ref (O 0)), (2, .ref m0), (3, .ref o), (4, .int (nI (3 * t)))]) hx hb dL_law_763 hl (by decide) rfl (fun ls hl => ?_)
  refine lv_aload_n hx hb dL_law_765 rfl (lv_at hl 3 rfl) ?_
  refine lv_aload_n hx hb dL_law_766 rfl (lv_at hl 1 rfl) ?_
  refine lv_iload hx hb dL_law_767 (lv_at hl 5 rfl) ?_
  refine lv_iconst (v := 1) hx hb dL_law_769 (by decide) ?_
  refine lv_iadd hx hb dL_law_770 ?_
  refine lv_eqi (y := nI (3 * t + 1)) (nI_add _ _) ?_
  refine va_sld hx hb hX hbl hbA hS (vp_in_nI (n := 3 * t + 1) (N := Lx) (by omega) (by omega)) dL_law_771 ?_
  refine lv_eqi (y := x) (by rw [nI_clamp (by omega)]; exact ex) ?_
  refine kcallVE (As := [.int x]) (rest := []) (Wn := fun u => [mdO m0 m1 m2 m3 u.1 u.2.2.1 w0 (nI n) ca lt fi sd hs, arC cI m1 1170 (enc u.2.1), arC cI m2 60 T, arC cI m3 8 u.2.2.2.1, arJ cJ o w9, clP cI cZ cS O k g a d w0 c9 f9 z9 V9 T n K G L v]) X (c_X7_note l D cI cZ cS cJ m0 m1 m2 m3 th w0 (nI n) ca lt fi sd hs B T h z (cy (B 0)) x hz6 hO.1 hO.2.1 hO.2.2.1 hO.2.2.2) (cwV 1 hts gL_law_X7_note rfl rfl rfl (by decide +kernel) ⟨Nat.le_of_ble_eq_true rfl, Nat.le_of_ble_eq_true rfl⟩) hK hP hD hS hA [0, 1, 2, 3] rfl (by decide +kernel) (fun _ => rfl) (fun _ => rfl) (fun _ => rfl) 0 7 rfl rfl rfl hl.1 rfl (Nat.le_of_ble_eq_true rfl) dL_law_772 ⟨by omega, by omega⟩ (fun uu H locs hu hP hD hS => ?_)
  obtain ⟨th9_1, B9_1, sv9_1, h9_1, r9_1⟩ := uu
  have hres_1 := hu
  have hP : va_P D vwCl (List.flatten [mdO m0 m1 m2 m3 th9_1 sv9_1 w0 (nI n) ca lt fi sd hs, arC cI m1 1170 (enc B9_1), arC cI m2 60 T, arC cI m3 8 h9_1, arJ cJ o w9, clP cI cZ cS O k g a d w0 c9 f9 z9 V9 T n K G L v]) _ := hP
  have hD : va_D A (List.flatten [mdO m0 m1 m2 m3 th9_1 sv9_1 w0 (nI n) ca lt fi sd hs, arC cI m1 1170 (enc B9_1), arC cI m2 60 T, arC cI m3 8 h9_1, arJ cJ o w9, clP cI cZ cS O k g a d w0 c9 f9 z9 V9 T n K G L v]) := hD
  obtain ⟨hIV, es, hth, hw⟩ := sv_step hI hq0 hres_1 (fun hK9 => GD_not hI.2.2.2.1)
  subst es
  have hP : va_P D vwCl (List.flatten [mdO m0 m1 m2 m3 th9_1 (nI z9) w0 (nI n) ca lt fi sd hs, arC cI m1 1170 (enc B9_1), arC cI m2 60 T, arC cI m3 8 h9_1, arJ cJ o w9, clP cI cZ cS O k g a d w0 c9 f9 z9 V9 T n K G L v]) _ := hP
  have hD : va_D A (List.flatten [mdO m0 m1 m2 m3 th9_1 (nI z9) w0 (nI n) ca lt fi sd hs, arC cI m1 1170 (enc B9_1), arC cI m2 60 T, arC cI m3 8 h9_1, arJ cJ o w9, clP cI cZ cS O k g a d w0 c9 f9 z9 V9 T n K G L v]) := hD
  refine lv_istore (lv' := [(6, .int r9_1), (5, .int k9), (0, .ref b), (1, .ref (O 0)), (2, .ref m0), (3, .ref o), (4, .int (nI (3 * t)))]) hx hb dL_law_775 hl (by decide) rfl (fun ls hl => ?_)
  refine lv_aload_n hx hb dL_law_777 rfl (lv_at hl 4 rfl) ?_
  refine kcallV (As := []) (rest := []) (Wn := [mdO m0 m1 m2 m3 th9_1 (nI z9) w0 (nI n) ca lt fi sd hs, arC cI m1 1170 (enc B9_1), arC cI m2 60 T, arC cI m3 8 h9_1, arJ cJ o w9, clP cI cZ cS O k g a d w0 c9 f9 z9 V9 T n K G L v]) X (c_X7_thrown l D cI cZ cS cJ m0 m1 m2 m3 th9_1 (nI z9) w0 (nI n) ca lt fi sd hs B9_1 T h9_1) (cwV 0 hts gL_law_X7_thrown rfl rfl rfl (by decide +kernel) ⟨Nat.le_of_ble_eq_true rfl, Nat.le_of_ble_eq_true rfl⟩) hK hP hD hS hA [0, 1, 2, 3] rfl (by decide +kernel) rfl rfl rfl 0 7 rfl rfl rfl hl.1 rfl (Nat.le_of_ble_eq_true rfl) dL_law_778 ⟨by omega, by omega⟩ (fun H locs hP hD hS => ?_)
  refine lv_iload hx hb dL_law_781 (lv_at hl 1 rfl) ?_
  refine lv_icmp_eq (tgt := 788) hx hb dL_law_783 (by decide) (fun _ => ?_) (fun h => absurd hth h)
  refine lv_iload hx hb dL_law_788 (lv_at hl 1 rfl) ?_
  refine lv_if_ne (tgt := 805) hx hb dL_law_790 (by decide) (fun q9c => ?_) (fun q9c => ?_)
  · skip
    refine lv_goto (tgt := 1723) hx hb dL_law_805 (by decide) ?_
    refine W.widen (k := cells + 1) (n := slots + 6) (by omega) (by omega) ?_
    exact hk w0 c9 f9 z9 V9 T n K G L v w9 th9_1 ca lt fi sd hs B9_1 h9_1 hIV _ _ _ hP hD hS (lv_sub hl [2, 3, 4, 5, 6] rfl)
  · skip
    refine lv_aload_n hx hb dL_law_793 rfl (lv_at hl 5 rfl) ?_
    refine lv_iconst (v := 0) hx hb dL_law_794 (by decide) ?_
    refine va_lald hx hb hK hP 4 3 rfl rfl (vp_in_nI (n := 0) (N := 1) (by omega) (by omega)) dL_law_795 ?_
    refine lv_iload hx hb dL_law_796 (lv_at hl 0 rfl) ?_
    refine lv_i2l (v := r9_1.toInt64) hx hb dL_law_798 rfl ?_
    refine W.lcmp hx hb dL_law_799 ?_
    refine lv_if_eq (tgt := 805) hx hb dL_law_800 (by decide) (fun _ => ?_) (fun h => absurd (by rw [show w9 = _ from hw q9c]; exact lg_same _) h)
    refine lv_goto (tgt := 1723) hx hb dL_law_805 (by decide) ?_
    refine W.widen (k := cells + 1) (n := slots + 6) (by omega) (by omega) ?_
    exact hk w0 c9 f9 z9 V9 T n K G L v w9 th9_1 ca lt fi sd hs B9_1 h9_1 hIV _ _ _ hP hD hS (lv_sub hl [2, 3, 4, 5, 6] rfl)

set_option maxHeartbeats 4000000 in
set_option maxRecDepth 100000 in
theorem lw_pass {p : Program} {e : Env} {s : State} {m : MethodId} {args : Array Value} {below : List Frame} {meth : Method} {cd : Code} {Q : State → Prop} {A : Nat → Prop} (l : Launch) (D : va_G) (cI cZ cS cJ : ClassId) (hl9 : l.stackTraces = false) (X : CallFix p m cd cL_law 9 s args wsL_law RL) (hZ : ZX A s) (hK : va_K D vwCl (tyL cI cZ cS cJ) s) (hA : ∀ q, s.heap.size ≤ q → A q) {b Lx : Nat} {xs : Nat → Int32} (hX : va_X b Lx xs s s.heap) (hbl : b < s.heap.size) (hbA : ¬ A b) (o m0 m1 m2 m3 : Nat) (O k g a d : Nat → Nat) (w0 : Int32) (c : Nat → Nat → Nat) (f : Nat → Option Nat) (z : Nat) (V : Nat → Nat → Nat → Int32) (T : Nat → Int32) (n : Nat) (K G : Nat → Nat → Int32) (L : Nat → Int32) (v : Int32) (ww : Int64) (th ca lt fi sd : Int32) (hs : Int64) (B : Nat → Nat → Nat → Int32) (h : Nat → Int32) (t cells slots : Nat) (ht : t < 600) (hLx : 3 * t + 2 < Lx) (hLx2 : Lx ≤ 1536) (hcs : cells + 1 ≤ room_1.cells ∧ slots + 6 ≤ room_1.slots) (hI : IV t w0 n c f z V B) (hk : KT 1723 p l e s m args below meth cd Q A D cI cZ cS cJ b o m0 m1 m2 m3 O k g a d t (cells + 1) (slots + 6)) (H : Heap) (locs : List Loc) (ls : Array Slot) (hP : va_P D vwCl (List.flatten (LW cI cZ cS cJ o m0 m1 m2 m3 O k g a d w0 c f z V T n K G L v ww th ca lt fi sd hs B h)) H) (hD : va_D A (List.flatten (LW cI cZ cS cJ o m0 m1 m2 m3 O k g a d w0 c f z V T n K G L v ww th ca lt fi sd hs B h))) (hS : va_S A s.heap H locs) (hl : lv_has ls 9 [(0, .ref b), (1, .ref (O 0)), (2, .ref m0), (3, .ref o), (4, .int (nI (3 * t)))]) : W p l e room_1 s m args below meth cd H locs cells slots Q (F0 m 808 ls []) := by
  obtain ⟨hx, hb, hml, hown, hts⟩ := id X
  have hO : OK (B 0) := hI.2.2.2.1.1
  have hz6 := hI.1.1
  have hn60 := hI.1.2.1
  have hf := hI.1.2.2
  have hV0 : V 0 = B 0 := hI.2.1
  have hOV : OK (V 0) := by rw [hV0]; exact hO
  obtain ⟨x, ex⟩ : ∃ x9, xs (3 * t + 1) = x9 := ⟨_, rfl⟩
  refine lv_aload_n hx hb dL_law_808 rfl (lv_at hl 1 rfl) ?_
  refine lv_aload_n hx hb dL_law_809 rfl (lv_at hl 0 rfl) ?_
  refine lv_iload hx hb dL_law_810 (lv_at hl 4 rfl) ?_
  refine lv_iconst (v := 1) hx hb dL_law_812 (by decide) ?_
  refine lv_iadd hx hb dL_law_813 ?_
  refine lv_eqi (y := nI (3 * t + 1)) (nI_add _ _) ?_
  refine va_sld hx hb hX hbl hbA hS (vp_in_nI (n := 3 * t + 1) (N := Lx) (by omega) (by omega)) dL_law_814 ?_
  refine lv_eqi (y := x) (by rw [nI_clamp (by omega)]; exact ex) ?_
  refine lv_aload_n hx hb dL_law_815 rfl (lv_at hl 3 rfl) ?_
  refine kcallHJ (U := (Int32) × (Nat → Nat → Nat) × (Nat → Option Nat) × (Nat) × (Nat → Nat → Nat → Int32) × (Int64)) (As := [.ref (O 0), .int x, .ref o]) (rest := []) (Wr := [mdO m0 m1 m2 m3 th (nI z) w0 (nI n) ca lt fi sd hs, arC cI m1 1170 (enc B), arC cI m2 60 T, arC cI m3 8 h]) (Wc := [arJ cJ o ww, clP cI cZ cS O k g a d w0 c f z V T n K G L v]) (Wo := fun u => [arJ cJ o u.2.2.2.2.2, clP cI cZ cS O k g a d w0 u.2.1 u.2.2.1 u.2.2.2.1 u.2.2.2.2.1 T n K G L v]) X hZ (h_pass l D cI cZ cS cJ hl9 O k g a d w0 c f z V T n K G L v o ww x hz6 hf hOV) (vx_cwSW 3 hts gL_law_L_pass rfl rfl rfl (by decide +kernel) ⟨Nat.le_of_ble_eq_true rfl, Nat.le_of_ble_eq_true rfl⟩) hK hP hD hS hA rfl hl.1 rfl (Nat.le_of_ble_eq_true rfl) dL_law_816 ⟨by omega, by omega⟩ (fun uu H locs hq0 hP hD hS => ?_)
  obtain ⟨k9, c9, f9, z9, V9, w9⟩ := uu
  have hP : va_P D vwCl (List.flatten [mdO m0 m1 m2 m3 th (nI z) w0 (nI n) ca lt fi sd hs, arC cI m1 1170 (enc B), arC cI m2 60 T, arC cI m3 8 h, arJ cJ o w9, clP cI cZ cS O k g a d w0 c9 f9 z9 V9 T n K G L v]) _ := hP
  have hD : va_D A (List.flatten [mdO m0 m1 m2 m3 th (nI z) w0 (nI n) ca lt fi sd hs, arC cI m1 1170 (enc B), arC cI m2 60 T, arC cI m3 8 h, arJ cJ o w9, clP cI cZ cS O k g a d w0 c9 f9 z9 V9 T n K G L v]) := hD
  rw [hV0] at hq0
  refine lv_istore (lv' := [(5, .int k9), (0, .ref b), (1, .ref (O 0)), (2, .ref m0), (3, .ref o), (4, .int (nI (3 * t)))]) hx hb dL_law_819 hl (by decide) rfl (fun ls hl => ?_)
  refine lv_aload_n hx hb dL_law_821 rfl (lv_at hl 3 rfl) ?_
  refine lv_aload_n hx hb dL_law_822 rfl (lv_at hl 1 rfl) ?_
  refine lv_iload hx hb dL_law_823 (lv_at hl 5 rfl) ?_
  refine lv_iconst (v := 1) hx hb dL_law_825 (by decide) ?_
  refine lv_iadd hx hb dL_law_826 ?_
  refine lv_eqi (y := nI (3 * t + 1)) (nI_add _ _) ?_
  refine va_sld hx hb hX hbl hbA hS (vp_in_nI (n := 3 * t + 1) (N := Lx) (by omega) (by omega)) dL_law_827 ?_
  refine lv_eqi (y := x) (by rw [nI_clamp (by omega)]; exact ex) ?_
  refine kcallVE (As := [.int x]) (rest := []) (Wn := fun u => [mdO m0 m1 m2 m3 u.1 u.2.2.1 w0 (nI n) ca lt fi sd hs, arC cI m1 1170 (enc u.2.1), arC cI m2 60 T, arC cI m3 8 u.2.2.2.1, arJ cJ o w9, clP cI cZ cS O k g a d w0 c9 f9 z9 V9 T n K G L v]) X (c_X7_pass l D cI cZ cS cJ m0 m1 m2 m3 th w0 (nI n) ca lt fi sd hs B T h z x hz6 hO.1 hO.2.1) (cwV 1 hts gL_law_X7_pass rfl rfl rfl (by decide +kernel) ⟨Nat.le_of_ble_eq_true rfl, Nat.le_of_ble_eq_true rfl⟩) hK hP hD hS hA [0, 1, 2, 3] rfl (by decide +kernel) (fun _ => rfl) (fun _ => rfl) (fun _ => rfl) 0 7 rfl rfl rfl hl.1 rfl (Nat.le_of_ble_eq_true rfl) dL_law_828 ⟨by omega, by omega⟩ (fun uu H locs hu hP hD hS => ?_)
  obtain ⟨th9_1, B9_1, sv9_1, h9_1, r9_1⟩ := uu
  have hres_1 := hu
  have hP : va_P D vwCl (List.flatten [mdO m0 m1 m2 m3 th9_1 sv9_1 w0 (nI n) ca lt fi sd hs, arC cI m1 1170 (enc B9_1), arC cI m2 60 T, arC cI m3 8 h9_1, arJ cJ o w9, clP cI cZ cS O k g a d w0 c9 f9 z9 V9 T n K G L v]) _ := hP
  have hD : va_D A (List.flatten [mdO m0 m1 m2 m3 th9_1 sv9_1 w0 (nI n) ca lt fi sd hs, arC cI m1 1170 (enc B9_1), arC cI m2 60 T, arC cI m3 8 h9_1, arJ cJ o w9, clP cI cZ cS O k g a d w0 c9 f9 z9 V9 T n K G L v]) := hD
  obtain ⟨hIV, es, hth, hw⟩ := sv_step hI hq0 hres_1 (fun hK9 => GD_pas (by omega) hI.2.2.2.1)
  subst es
  have hP : va_P D vwCl (List.flatten [mdO m0 m1 m2 m3 th9_1 (nI z9) w0 (nI n) ca lt fi sd hs, arC cI m1 1170 (enc B9_1), arC cI m2 60 T, arC cI m3 8 h9_1, arJ cJ o w9, clP cI cZ cS O k g a d w0 c9 f9 z9 V9 T n K G L v]) _ := hP
  have hD : va_D A (List.flatten [mdO m0 m1 m2 m3 th9_1 (nI z9) w0 (nI n) ca lt fi sd hs, arC cI m1 1170 (enc B9_1), arC cI m2 60 T, arC cI m3 8 h9_1, arJ cJ o w9, clP cI cZ cS O k g a d w0 c9 f9 z9 V9 T n K G L v]) := hD
  refine lv_istore (lv' := [(6, .int r9_1), (5, .int k9), (0, .ref b), (1, .ref (O 0)), (2, .ref m0), (3, .ref o), (4, .int (nI (3 * t)))]) hx hb dL_law_831 hl (by decide) rfl (fun ls hl => ?_)
  refine lv_aload_n hx hb dL_law_833 rfl (lv_at hl 4 rfl) ?_
  refine kcallV (As := []) (rest := []) (Wn := [mdO m0 m1 m2 m3 th9_1 (nI z9) w0 (nI n) ca lt fi sd hs, arC cI m1 1170 (enc B9_1), arC cI m2 60 T, arC cI m3 8 h9_1, arJ cJ o w9, clP cI cZ cS O k g a d w0 c9 f9 z9 V9 T n K G L v]) X (c_X7_thrown l D cI cZ cS cJ m0 m1 m2 m3 th9_1 (nI z9) w0 (nI n) ca lt fi sd hs B9_1 T h9_1) (cwV 0 hts gL_law_X7_thrown rfl rfl rfl (by decide +kernel) ⟨Nat.le_of_ble_eq_true rfl, Nat.le_of_ble_eq_true rfl⟩) hK hP hD hS hA [0, 1, 2, 3] rfl (by decide +kernel) rfl rfl rfl 0 7 rfl rfl rfl hl.1 rfl (Nat.le_of_ble_eq_true rfl) dL_law_834 ⟨by omega, by omega⟩ (fun H locs hP hD hS => ?_)
  refine lv_iload hx hb dL_law_837 (lv_at hl 1 rfl) ?_
  refine lv_icmp_eq (tgt := 844) hx hb dL_law_839 (by decide) (fun _ => ?_) (fun h => absurd hth h)
  refine lv_iload hx hb dL_law_844 (lv_at hl 1 rfl) ?_
  refine lv_if_ne (tgt := 861) hx hb dL_law_846 (by decide) (fun q9c => ?_) (fun q9c => ?_)
  · skip
    refine lv_goto (tgt := 1723) hx hb dL_law_861 (by decide) ?_
    refine W.widen (k := cells + 1) (n := slots + 6) (by omega) (by omega) ?_
    exact hk w0 c9 f9 z9 V9 T n K G L v w9 th9_1 ca lt fi sd hs B9_1 h9_1 hIV _ _ _ hP hD hS (lv_sub hl [2, 3, 4, 5, 6] rfl)
  · skip
    refine lv_aload_n hx hb dL_law_849 rfl (lv_at hl 5 rfl) ?_
    refine lv_iconst (v := 0) hx hb dL_law_850 (by decide) ?_
    refine va_lald hx hb hK hP 4 3 rfl rfl (vp_in_nI (n := 0) (N := 1) (by omega) (by omega)) dL_law_851 ?_
    refine lv_iload hx hb dL_law_852 (lv_at hl 0 rfl) ?_
    refine lv_i2l (v := r9_1.toInt64) hx hb dL_law_854 rfl ?_
    refine W.lcmp hx hb dL_law_855 ?_
    refine lv_if_eq (tgt := 861) hx hb dL_law_856 (by decide) (fun _ => ?_) (fun h => absurd (by rw [show w9 = _ from hw q9c]; exact lg_same _) h)
    refine lv_goto (tgt := 1723) hx hb dL_law_861 (by decide) ?_
    refine W.widen (k := cells + 1) (n := slots + 6) (by omega) (by omega) ?_
    exact hk w0 c9 f9 z9 V9 T n K G L v w9 th9_1 ca lt fi sd hs B9_1 h9_1 hIV _ _ _ hP hD hS (lv_sub hl [2, 3, 4, 5, 6] rfl)

set_option maxHeartbeats 4000000 in
set_option maxRecDepth 100000 in
theorem lw_append {p : Program} {e : Env} {s : State} {m : MethodId} {args : Array Value} {below : List Frame} {meth : Method} {cd : Code} {Q : State → Prop} {A : Nat → Prop} (l : Launch) (D : va_G) (cI cZ cS cJ : ClassId) (hl9 : l.stackTraces = false) (X : CallFix p m cd cL_law 9 s args wsL_law RL) (hZ : ZX A s) (hK : va_K D vwCl (tyL cI cZ cS cJ) s) (hA : ∀ q, s.heap.size ≤ q → A q) {b Lx : Nat} {xs : Nat → Int32} (hX : va_X b Lx xs s s.heap) (hbl : b < s.heap.size) (hbA : ¬ A b) (o m0 m1 m2 m3 : Nat) (O k g a d : Nat → Nat) (w0 : Int32) (c : Nat → Nat → Nat) (f : Nat → Option Nat) (z : Nat) (V : Nat → Nat → Nat → Int32) (T : Nat → Int32) (n : Nat) (K G : Nat → Nat → Int32) (L : Nat → Int32) (v : Int32) (ww : Int64) (th ca lt fi sd : Int32) (hs : Int64) (B : Nat → Nat → Nat → Int32) (h : Nat → Int32) (t cells slots : Nat) (ht : t < 600) (hLx : 3 * t + 2 < Lx) (hLx2 : Lx ≤ 1536) (hcs : cells + 1 ≤ room_1.cells ∧ slots + 6 ≤ room_1.slots) (hI : IV t w0 n c f z V B) (hk : KT 1723 p l e s m args below meth cd Q A D cI cZ cS cJ b o m0 m1 m2 m3 O k g a d t (cells + 1) (slots + 6)) (H : Heap) (locs : List Loc) (ls : Array Slot) (hP : va_P D vwCl (List.flatten (LW cI cZ cS cJ o m0 m1 m2 m3 O k g a d w0 c f z V T n K G L v ww th ca lt fi sd hs B h)) H) (hD : va_D A (List.flatten (LW cI cZ cS cJ o m0 m1 m2 m3 O k g a d w0 c f z V T n K G L v ww th ca lt fi sd hs B h))) (hS : va_S A s.heap H locs) (hl : lv_has ls 9 [(0, .ref b), (1, .ref (O 0)), (2, .ref m0), (3, .ref o), (4, .int (nI (3 * t)))]) : W p l e room_1 s m args below meth cd H locs cells slots Q (F0 m 864 ls []) := by
  obtain ⟨hx, hb, hml, hown, hts⟩ := id X
  have hO : OK (B 0) := hI.2.2.2.1.1
  have hz6 := hI.1.1
  have hn60 := hI.1.2.1
  have hf := hI.1.2.2
  have hV0 : V 0 = B 0 := hI.2.1
  have hOV : OK (V 0) := by rw [hV0]; exact hO
  obtain ⟨x, ex⟩ : ∃ x9, xs (3 * t + 1) = x9 := ⟨_, rfl⟩
  refine lv_aload_n hx hb dL_law_864 rfl (lv_at hl 1 rfl) ?_
  refine lv_aload_n hx hb dL_law_865 rfl (lv_at hl 0 rfl) ?_
  refine lv_iload hx hb dL_law_866 (lv_at hl 4 rfl) ?_
  refine lv_iconst (v := 1) hx hb dL_law_868 (by decide) ?_
  refine lv_iadd hx hb dL_law_869 ?_
  refine lv_eqi (y := nI (3 * t + 1)) (nI_add _ _) ?_
  refine va_sld hx hb hX hbl hbA hS (vp_in_nI (n := 3 * t + 1) (N := Lx) (by omega) (by omega)) dL_law_870 ?_
  refine lv_eqi (y := x) (by rw [nI_clamp (by omega)]; exact ex) ?_
  refine lv_aload_n hx hb dL_law_871 rfl (lv_at hl 3 rfl) ?_
  refine kcallHJ (U := (Int32) × (Nat → Int32) × (Nat) × (Int64)) (As := [.ref (O 0), .int x, .ref o]) (rest := []) (Wr := [mdO m0 m1 m2 m3 th (nI z) w0 (nI n) ca lt fi sd hs, arC cI m1 1170 (enc B), arC cI m2 60 T, arC cI m3 8 h]) (Wc := [arJ cJ o ww, clP cI cZ cS O k g a d w0 c f z V T n K G L v]) (Wo := fun u => [arJ cJ o u.2.2.2, clP cI cZ cS O k g a d w0 c f z V u.2.1 u.2.2.1 K G L v]) X hZ (h_append l D cI cZ cS cJ hl9 O k g a d w0 c f z V T n K G L v o ww x hn60) (vx_cwSW 3 hts gL_law_L_append rfl rfl rfl (by decide +kernel) ⟨Nat.le_of_ble_eq_true rfl, Nat.le_of_ble_eq_true rfl⟩) hK hP hD hS hA rfl hl.1 rfl (Nat.le_of_ble_eq_true rfl) dL_law_872 ⟨by omega, by omega⟩ (fun uu H locs hq0 hP hD hS => ?_)
  obtain ⟨k9, T9, n9, w9⟩ := uu
  have hP : va_P D vwCl (List.flatten [mdO m0 m1 m2 m3 th (nI z) w0 (nI n) ca lt fi sd hs, arC cI m1 1170 (enc B), arC cI m2 60 T, arC cI m3 8 h, arJ cJ o w9, clP cI cZ cS O k g a d w0 c f z V T9 n9 K G L v]) _ := hP
  have hD : va_D A (List.flatten [mdO m0 m1 m2 m3 th (nI z) w0 (nI n) ca lt fi sd hs, arC cI m1 1170 (enc B), arC cI m2 60 T, arC cI m3 8 h, arJ cJ o w9, clP cI cZ cS O k g a d w0 c f z V T9 n9 K G L v]) := hD
  refine lv_istore (lv' := [(5, .int k9), (0, .ref b), (1, .ref (O 0)), (2, .ref m0), (3, .ref o), (4, .int (nI (3 * t)))]) hx hb dL_law_875 hl (by decide) rfl (fun ls hl => ?_)
  refine lv_aload_n hx hb dL_law_877 rfl (lv_at hl 3 rfl) ?_
  refine lv_aload_n hx hb dL_law_878 rfl (lv_at hl 1 rfl) ?_
  refine lv_iload hx hb dL_law_879 (lv_at hl 5 rfl) ?_
  refine lv_iconst (v := 1) hx hb dL_law_881 (by decide) ?_
  refine lv_iadd hx hb dL_law_882 ?_
  refine lv_eqi (y := nI (3 * t + 1)) (nI_add _ _) ?_
  refine va_sld hx hb hX hbl hbA hS (vp_in_nI (n := 3 * t + 1) (N := Lx) (by omega) (by omega)) dL_law_883 ?_
  refine lv_eqi (y := x) (by rw [nI_clamp (by omega)]; exact ex) ?_
  refine kcallVE (As := [.int x]) (rest := []) (Wn := fun u => [mdO m0 m1 m2 m3 u.1 (nI z) w0 u.2.2.1 ca lt fi sd hs, arC cI m1 1170 (enc B), arC cI m2 60 u.2.1, arC cI m3 8 h, arJ cJ o w9, clP cI cZ cS O k g a d w0 c f z V T9 n9 K G L v]) X (c_X7_append l D cI cZ cS cJ m0 m1 m2 m3 th (nI z) w0 ca lt fi sd hs B T h n x hn60) (cwV 1 hts gL_law_X7_append rfl rfl rfl (by decide +kernel) ⟨Nat.le_of_ble_eq_true rfl, Nat.le_of_ble_eq_true rfl⟩) hK hP hD hS hA [0, 1, 2, 3] rfl (by decide +kernel) (fun _ => rfl) (fun _ => rfl) (fun _ => rfl) 0 7 rfl rfl rfl hl.1 rfl (Nat.le_of_ble_eq_true rfl) dL_law_884 ⟨by omega, by omega⟩ (fun uu H locs hu hP hD hS => ?_)
  obtain ⟨th9_1, T9_1, ln9_1, r9_1⟩ := uu
  have hres_1 := hu
  have hP : va_P D vwCl (List.flatten [mdO m0 m1 m2 m3 th9_1 (nI z) w0 ln9_1 ca lt fi sd hs, arC cI m1 1170 (enc B), arC cI m2 60 T9_1, arC cI m3 8 h, arJ cJ o w9, clP cI cZ cS O k g a d w0 c f z V T9 n9 K G L v]) _ := hP
  have hD : va_D A (List.flatten [mdO m0 m1 m2 m3 th9_1 (nI z) w0 ln9_1 ca lt fi sd hs, arC cI m1 1170 (enc B), arC cI m2 60 T9_1, arC cI m3 8 h, arJ cJ o w9, clP cI cZ cS O k g a d w0 c f z V T9 n9 K G L v]) := hD
  obtain ⟨hIV, eT, el, hth, hw⟩ := ap_step hI hq0 hres_1
  have eT : T9_1 = T9 := eT
  have el : ln9_1 = nI n9 := el
  subst el
  subst eT
  have hP : va_P D vwCl (List.flatten [mdO m0 m1 m2 m3 th9_1 (nI z) w0 (nI n9) ca lt fi sd hs, arC cI m1 1170 (enc B), arC cI m2 60 T9_1, arC cI m3 8 h, arJ cJ o w9, clP cI cZ cS O k g a d w0 c f z V T9_1 n9 K G L v]) _ := hP
  have hD : va_D A (List.flatten [mdO m0 m1 m2 m3 th9_1 (nI z) w0 (nI n9) ca lt fi sd hs, arC cI m1 1170 (enc B), arC cI m2 60 T9_1, arC cI m3 8 h, arJ cJ o w9, clP cI cZ cS O k g a d w0 c f z V T9_1 n9 K G L v]) := hD
  refine lv_istore (lv' := [(6, .int r9_1), (5, .int k9), (0, .ref b), (1, .ref (O 0)), (2, .ref m0), (3, .ref o), (4, .int (nI (3 * t)))]) hx hb dL_law_887 hl (by decide) rfl (fun ls hl => ?_)
  refine lv_aload_n hx hb dL_law_889 rfl (lv_at hl 4 rfl) ?_
  refine kcallV (As := []) (rest := []) (Wn := [mdO m0 m1 m2 m3 th9_1 (nI z) w0 (nI n9) ca lt fi sd hs, arC cI m1 1170 (enc B), arC cI m2 60 T9_1, arC cI m3 8 h, arJ cJ o w9, clP cI cZ cS O k g a d w0 c f z V T9_1 n9 K G L v]) X (c_X7_thrown l D cI cZ cS cJ m0 m1 m2 m3 th9_1 (nI z) w0 (nI n9) ca lt fi sd hs B T9_1 h) (cwV 0 hts gL_law_X7_thrown rfl rfl rfl (by decide +kernel) ⟨Nat.le_of_ble_eq_true rfl, Nat.le_of_ble_eq_true rfl⟩) hK hP hD hS hA [0, 1, 2, 3] rfl (by decide +kernel) rfl rfl rfl 0 7 rfl rfl rfl hl.1 rfl (Nat.le_of_ble_eq_true rfl) dL_law_890 ⟨by omega, by omega⟩ (fun H locs hP hD hS => ?_)
  refine lv_iload hx hb dL_law_893 (lv_at hl 1 rfl) ?_
  refine lv_icmp_eq (tgt := 900) hx hb dL_law_895 (by decide) (fun _ => ?_) (fun h => absurd hth h)
  refine lv_iload hx hb dL_law_900 (lv_at hl 1 rfl) ?_
  refine lv_if_ne (tgt := 917) hx hb dL_law_902 (by decide) (fun q9c => ?_) (fun q9c => ?_)
  · skip
    refine lv_goto (tgt := 1723) hx hb dL_law_917 (by decide) ?_
    refine W.widen (k := cells + 1) (n := slots + 6) (by omega) (by omega) ?_
    exact hk w0 c f z V T9_1 n9 K G L v w9 th9_1 ca lt fi sd hs B h hIV _ _ _ hP hD hS (lv_sub hl [2, 3, 4, 5, 6] rfl)
  · skip
    refine lv_aload_n hx hb dL_law_905 rfl (lv_at hl 5 rfl) ?_
    refine lv_iconst (v := 0) hx hb dL_law_906 (by decide) ?_
    refine va_lald hx hb hK hP 4 3 rfl rfl (vp_in_nI (n := 0) (N := 1) (by omega) (by omega)) dL_law_907 ?_
    refine lv_iload hx hb dL_law_908 (lv_at hl 0 rfl) ?_
    refine lv_i2l (v := r9_1.toInt64) hx hb dL_law_910 rfl ?_
    refine W.lcmp hx hb dL_law_911 ?_
    refine lv_if_eq (tgt := 917) hx hb dL_law_912 (by decide) (fun _ => ?_) (fun h => absurd (by rw [show w9 = _ from hw q9c]; exact lg_same _) h)
    refine lv_goto (tgt := 1723) hx hb dL_law_917 (by decide) ?_
    refine W.widen (k := cells + 1) (n := slots + 6) (by omega) (by omega) ?_
    exact hk w0 c f z V T9_1 n9 K G L v w9 th9_1 ca lt fi sd hs B h hIV _ _ _ hP hD hS (lv_sub hl [2, 3, 4, 5, 6] rfl)

set_option maxHeartbeats 4000000 in
set_option maxRecDepth 100000 in
theorem lw_work {p : Program} {e : Env} {s : State} {m : MethodId} {args : Array Value} {below : List Frame} {meth : Method} {cd : Code} {Q : State → Prop} {A : Nat → Prop} (l : Launch) (D : va_G) (cI cZ cS cJ : ClassId) (hl9 : l.stackTraces = false) (X : CallFix p m cd cL_law 9 s args wsL_law RL) (hZ : ZX A s) (hK : va_K D vwCl (tyL cI cZ cS cJ) s) (hA : ∀ q, s.heap.size ≤ q → A q) {b Lx : Nat} {xs : Nat → Int32} (hX : va_X b Lx xs s s.heap) (hbl : b < s.heap.size) (hbA : ¬ A b) (o m0 m1 m2 m3 : Nat) (O k g a d : Nat → Nat) (w0 : Int32) (c : Nat → Nat → Nat) (f : Nat → Option Nat) (z : Nat) (V : Nat → Nat → Nat → Int32) (T : Nat → Int32) (n : Nat) (K G : Nat → Nat → Int32) (L : Nat → Int32) (v : Int32) (ww : Int64) (th ca lt fi sd : Int32) (hs : Int64) (B : Nat → Nat → Nat → Int32) (h : Nat → Int32) (t cells slots : Nat) (ht : t < 600) (hLx : 3 * t + 2 < Lx) (hLx2 : Lx ≤ 1536) (hcs : cells + 1 ≤ room_1.cells ∧ slots + 6 ≤ room_1.slots) (hI : IV t w0 n c f z V B) (hk : KT 1723 p l e s m args below meth cd Q A D cI cZ cS cJ b o m0 m1 m2 m3 O k g a d t (cells + 1) (slots + 6)) (H : Heap) (locs : List Loc) (ls : Array Slot) (hP : va_P D vwCl (List.flatten (LW cI cZ cS cJ o m0 m1 m2 m3 O k g a d w0 c f z V T n K G L v ww th ca lt fi sd hs B h)) H) (hD : va_D A (List.flatten (LW cI cZ cS cJ o m0 m1 m2 m3 O k g a d w0 c f z V T n K G L v ww th ca lt fi sd hs B h))) (hS : va_S A s.heap H locs) (hl : lv_has ls 9 [(0, .ref b), (1, .ref (O 0)), (2, .ref m0), (3, .ref o), (4, .int (nI (3 * t)))]) : W p l e room_1 s m args below meth cd H locs cells slots Q (F0 m 946 ls []) := by
  obtain ⟨hx, hb, hml, hown, hts⟩ := id X
  have hO : OK (B 0) := hI.2.2.2.1.1
  have hz6 := hI.1.1
  have hn60 := hI.1.2.1
  have hf := hI.1.2.2
  have hV0 : V 0 = B 0 := hI.2.1
  have hOV : OK (V 0) := by rw [hV0]; exact hO
  refine lv_aload_n hx hb dL_law_946 rfl (lv_at hl 1 rfl) ?_
  refine lv_aload_n hx hb dL_law_947 rfl (lv_at hl 3 rfl) ?_
  refine kcallHJ (U := (Int32) × (Nat → Nat → Nat) × (Nat → Option Nat) × (Nat) × (Nat → Nat → Nat → Int32) × (Nat) × (Int64)) (As := [.ref (O 0), .ref o]) (rest := []) (Wr := [mdO m0 m1 m2 m3 th (nI z) w0 (nI n) ca lt fi sd hs, arC cI m1 1170 (enc B), arC cI m2 60 T, arC cI m3 8 h]) (Wc := [arJ cJ o ww, clP cI cZ cS O k g a d w0 c f z V T n K G L v]) (Wo := fun u => [arJ cJ o u.2.2.2.2.2.2, clP cI cZ cS O k g a d w0 u.2.1 u.2.2.1 u.2.2.2.1 u.2.2.2.2.1 T u.2.2.2.2.2.1 K G L v]) X hZ (h_work l D cI cZ cS cJ hl9 O k g a d w0 c f z V T n K G L v o ww  hz6 hf hOV hn60) (vx_cwSW 2 hts gL_law_L_work rfl rfl rfl (by decide +kernel) ⟨Nat.le_of_ble_eq_true rfl, Nat.le_of_ble_eq_true rfl⟩) hK hP hD hS hA rfl hl.1 rfl (Nat.le_of_ble_eq_true rfl) dL_law_948 ⟨by omega, by omega⟩ (fun uu H locs hq0 hP hD hS => ?_)
  obtain ⟨k9, c9, f9, z9, V9, n9, w9⟩ := uu
  have hP : va_P D vwCl (List.flatten [mdO m0 m1 m2 m3 th (nI z) w0 (nI n) ca lt fi sd hs, arC cI m1 1170 (enc B), arC cI m2 60 T, arC cI m3 8 h, arJ cJ o w9, clP cI cZ cS O k g a d w0 c9 f9 z9 V9 T n9 K G L v]) _ := hP
  have hD : va_D A (List.flatten [mdO m0 m1 m2 m3 th (nI z) w0 (nI n) ca lt fi sd hs, arC cI m1 1170 (enc B), arC cI m2 60 T, arC cI m3 8 h, arJ cJ o w9, clP cI cZ cS O k g a d w0 c9 f9 z9 V9 T n9 K G L v]) := hD
  rw [hV0] at hq0
  refine lv_istore (lv' := [(5, .int k9), (0, .ref b), (1, .ref (O 0)), (2, .ref m0), (3, .ref o), (4, .int (nI (3 * t)))]) hx hb dL_law_951 hl (by decide) rfl (fun ls hl => ?_)
  refine lv_aload_n hx hb dL_law_953 rfl (lv_at hl 3 rfl) ?_
  refine kcallVE (As := []) (rest := []) (Wn := fun u => [mdO m0 m1 m2 m3 u.1 u.2.2.1 w0 u.2.2.2.1 u.2.2.2.2.1 u.2.2.2.2.2.1 u.2.2.2.2.2.2.1 u.2.2.2.2.2.2.2.1 hs, arC cI m1 1170 (enc u.2.1), arC cI m2 60 T, arC cI m3 8 u.2.2.2.2.2.2.2.2.1, arJ cJ o w9, clP cI cZ cS O k g a d w0 c9 f9 z9 V9 T n9 K G L v]) X (c_X7_work l D cI cZ cS cJ m0 m1 m2 m3 th w0 ca lt fi sd hs B T h z n hz6 hn60 hO) (cwV 0 hts gL_law_X7_work rfl rfl rfl (by decide +kernel) ⟨Nat.le_of_ble_eq_true rfl, Nat.le_of_ble_eq_true rfl⟩) hK hP hD hS hA [0, 1, 2, 3] rfl (by decide +kernel) (fun _ => rfl) (fun _ => rfl) (fun _ => rfl) 0 7 rfl rfl rfl hl.1 rfl (Nat.le_of_ble_eq_true rfl) dL_law_954 ⟨by omega, by omega⟩ (fun uu H locs hu hP hD hS => ?_)
  obtain ⟨th9_1, B9_1, sv9_1, ln9_1, ca9_1, lt9_1, fi9_1, sd9_1, h9_1, r9_1⟩ := uu
  have hres_1 := hu
  have hP : va_P D vwCl (List.flatten [mdO m0 m1 m2 m3 th9_1 sv9_1 w0 ln9_1 ca9_1 lt9_1 fi9_1 sd9_1 hs, arC cI m1 1170 (enc B9_1), arC cI m2 60 T, arC cI m3 8 h9_1, arJ cJ o w9, clP cI cZ cS O k g a d w0 c9 f9 z9 V9 T n9 K G L v]) _ := hP
  have hD : va_D A (List.flatten [mdO m0 m1 m2 m3 th9_1 sv9_1 w0 ln9_1 ca9_1 lt9_1 fi9_1 sd9_1 hs, arC cI m1 1170 (enc B9_1), arC cI m2 60 T, arC cI m3 8 h9_1, arJ cJ o w9, clP cI cZ cS O k g a d w0 c9 f9 z9 V9 T n9 K G L v]) := hD
  obtain ⟨hIV, es, el, hth, hw⟩ := wk_step hI hq0 hres_1 (fun hK9 => GD_wk (by omega) hn60 hI.2.2.2.1 (k1_i hK9))
  subst es
  subst el
  have hP : va_P D vwCl (List.flatten [mdO m0 m1 m2 m3 th9_1 (nI z9) w0 (nI n9) ca9_1 lt9_1 fi9_1 sd9_1 hs, arC cI m1 1170 (enc B9_1), arC cI m2 60 T, arC cI m3 8 h9_1, arJ cJ o w9, clP cI cZ cS O k g a d w0 c9 f9 z9 V9 T n9 K G L v]) _ := hP
  have hD : va_D A (List.flatten [mdO m0 m1 m2 m3 th9_1 (nI z9) w0 (nI n9) ca9_1 lt9_1 fi9_1 sd9_1 hs, arC cI m1 1170 (enc B9_1), arC cI m2 60 T, arC cI m3 8 h9_1, arJ cJ o w9, clP cI cZ cS O k g a d w0 c9 f9 z9 V9 T n9 K G L v]) := hD
  refine lv_istore (lv' := [(6, .int r9_1), (5, .int k9), (0, .ref b), (1, .ref (O 0)), (2, .ref m0), (3, .ref o), (4, .int (nI (3 * t)))]) hx hb dL_law_957 hl (by decide) rfl (fun ls hl => ?_)
  refine lv_aload_n hx hb dL_law_959 rfl (lv_at hl 4 rfl) ?_
  refine kcallV (As := []) (rest := []) (Wn := [mdO m0 m1 m2 m3 th9_1 (nI z9) w0 (nI n9) ca9_1 lt9_1 fi9_1 sd9_1 hs, arC cI m1 1170 (enc B9_1), arC cI m2 60 T, arC cI m3 8 h9_1, arJ cJ o w9, clP cI cZ cS O k g a d w0 c9 f9 z9 V9 T n9 K G L v]) X (c_X7_thrown l D cI cZ cS cJ m0 m1 m2 m3 th9_1 (nI z9) w0 (nI n9) ca9_1 lt9_1 fi9_1 sd9_1 hs B9_1 T h9_1) (cwV 0 hts gL_law_X7_thrown rfl rfl rfl (by decide +kernel) ⟨Nat.le_of_ble_eq_true rfl, Nat.le_of_ble_eq_true rfl⟩) hK hP hD hS hA [0, 1, 2, 3] rfl (by decide +kernel) rfl rfl rfl 0 7 rfl rfl rfl hl.1 rfl (Nat.le_of_ble_eq_true rfl) dL_law_960 ⟨by omega, by omega⟩ (fun H locs hP hD hS => ?_)
  refine lv_iload hx hb dL_law_963 (lv_at hl 1 rfl) ?_
  refine lv_icmp_eq (tgt := 970) hx hb dL_law_965 (by decide) (fun _ => ?_) (fun h => absurd hth h)
  refine lv_iload hx hb dL_law_970 (lv_at hl 1 rfl) ?_
  refine lv_if_ne (tgt := 987) hx hb dL_law_972 (by decide) (fun q9c => ?_) (fun q9c => ?_)
  · skip
    refine lv_goto (tgt := 1723) hx hb dL_law_987 (by decide) ?_
    refine W.widen (k := cells + 1) (n := slots + 6) (by omega) (by omega) ?_
    exact hk w0 c9 f9 z9 V9 T n9 K G L v w9 th9_1 ca9_1 lt9_1 fi9_1 sd9_1 hs B9_1 h9_1 hIV _ _ _ hP hD hS (lv_sub hl [2, 3, 4, 5, 6] rfl)
  · skip
    refine lv_aload_n hx hb dL_law_975 rfl (lv_at hl 5 rfl) ?_
    refine lv_iconst (v := 0) hx hb dL_law_976 (by decide) ?_
    refine va_lald hx hb hK hP 4 3 rfl rfl (vp_in_nI (n := 0) (N := 1) (by omega) (by omega)) dL_law_977 ?_
    refine lv_iload hx hb dL_law_978 (lv_at hl 0 rfl) ?_
    refine lv_i2l (v := r9_1.toInt64) hx hb dL_law_980 rfl ?_
    refine W.lcmp hx hb dL_law_981 ?_
    refine lv_if_eq (tgt := 987) hx hb dL_law_982 (by decide) (fun _ => ?_) (fun h => absurd (by rw [show w9 = _ from hw q9c]; exact lg_same _) h)
    refine lv_goto (tgt := 1723) hx hb dL_law_987 (by decide) ?_
    refine W.widen (k := cells + 1) (n := slots + 6) (by omega) (by omega) ?_
    exact hk w0 c9 f9 z9 V9 T n9 K G L v w9 th9_1 ca9_1 lt9_1 fi9_1 sd9_1 hs B9_1 h9_1 hIV _ _ _ hP hD hS (lv_sub hl [2, 3, 4, 5, 6] rfl)

set_option maxHeartbeats 4000000 in
set_option maxRecDepth 100000 in
theorem lw_goBack {p : Program} {e : Env} {s : State} {m : MethodId} {args : Array Value} {below : List Frame} {meth : Method} {cd : Code} {Q : State → Prop} {A : Nat → Prop} (l : Launch) (D : va_G) (cI cZ cS cJ : ClassId) (hl9 : l.stackTraces = false) (X : CallFix p m cd cL_law 9 s args wsL_law RL) (hZ : ZX A s) (hK : va_K D vwCl (tyL cI cZ cS cJ) s) (hA : ∀ q, s.heap.size ≤ q → A q) {b Lx : Nat} {xs : Nat → Int32} (hX : va_X b Lx xs s s.heap) (hbl : b < s.heap.size) (hbA : ¬ A b) (o m0 m1 m2 m3 : Nat) (O k g a d : Nat → Nat) (w0 : Int32) (c : Nat → Nat → Nat) (f : Nat → Option Nat) (z : Nat) (V : Nat → Nat → Nat → Int32) (T : Nat → Int32) (n : Nat) (K G : Nat → Nat → Int32) (L : Nat → Int32) (v : Int32) (ww : Int64) (th ca lt fi sd : Int32) (hs : Int64) (B : Nat → Nat → Nat → Int32) (h : Nat → Int32) (t cells slots : Nat) (ht : t < 600) (hLx : 3 * t + 2 < Lx) (hLx2 : Lx ≤ 1536) (hcs : cells + 1 ≤ room_1.cells ∧ slots + 6 ≤ room_1.slots) (hI : IV t w0 n c f z V B) (hk : KT 1723 p l e s m args below meth cd Q A D cI cZ cS cJ b o m0 m1 m2 m3 O k g a d t (cells + 1) (slots + 6)) (H : Heap) (locs : List Loc) (ls : Array Slot) (hP : va_P D vwCl (List.flatten (LW cI cZ cS cJ o m0 m1 m2 m3 O k g a d w0 c f z V T n K G L v ww th ca lt fi sd hs B h)) H) (hD : va_D A (List.flatten (LW cI cZ cS cJ o m0 m1 m2 m3 O k g a d w0 c f z V T n K G L v ww th ca lt fi sd hs B h))) (hS : va_S A s.heap H locs) (hl : lv_has ls 9 [(0, .ref b), (1, .ref (O 0)), (2, .ref m0), (3, .ref o), (4, .int (nI (3 * t)))]) : W p l e room_1 s m args below meth cd H locs cells slots Q (F0 m 1003 ls []) := by
  obtain ⟨hx, hb, hml, hown, hts⟩ := id X
  have hO : OK (B 0) := hI.2.2.2.1.1
  have hz6 := hI.1.1
  have hn60 := hI.1.2.1
  have hf := hI.1.2.2
  have hV0 : V 0 = B 0 := hI.2.1
  have hOV : OK (V 0) := by rw [hV0]; exact hO
  refine lv_aload_n hx hb dL_law_1003 rfl (lv_at hl 1 rfl) ?_
  refine lv_aload_n hx hb dL_law_1004 rfl (lv_at hl 3 rfl) ?_
  refine kcallHJ (U := (Int32) × (Nat → Nat → Nat) × (Nat → Option Nat) × (Nat) × (Nat → Nat → Nat → Int32) × (Int64)) (As := [.ref (O 0), .ref o]) (rest := []) (Wr := [mdO m0 m1 m2 m3 th (nI z) w0 (nI n) ca lt fi sd hs, arC cI m1 1170 (enc B), arC cI m2 60 T, arC cI m3 8 h]) (Wc := [arJ cJ o ww, clP cI cZ cS O k g a d w0 c f z V T n K G L v]) (Wo := fun u => [arJ cJ o u.2.2.2.2.2, clP cI cZ cS O k g a d w0 u.2.1 u.2.2.1 u.2.2.2.1 u.2.2.2.2.1 T n K G L v]) X hZ (h_goBack l D cI cZ cS cJ hl9 O k g a d w0 c f z V T n K G L v o ww  hz6 hf hOV (hI.2.2.2.2.2.imp id (fun h9 => by rw [h9.2.1]; exact h9.2.2.1))) (vx_cwSW 2 hts gL_law_L_goBack rfl rfl rfl (by decide +kernel) ⟨Nat.le_of_ble_eq_true rfl, Nat.le_of_ble_eq_true rfl⟩) hK hP hD hS hA rfl hl.1 rfl (Nat.le_of_ble_eq_true rfl) dL_law_1005 ⟨by omega, by omega⟩ (fun uu H locs hq0 hP hD hS => ?_)
  obtain ⟨k9, c9, f9, z9, V9, w9⟩ := uu
  have hP : va_P D vwCl (List.flatten [mdO m0 m1 m2 m3 th (nI z) w0 (nI n) ca lt fi sd hs, arC cI m1 1170 (enc B), arC cI m2 60 T, arC cI m3 8 h, arJ cJ o w9, clP cI cZ cS O k g a d w0 c9 f9 z9 V9 T n K G L v]) _ := hP
  have hD : va_D A (List.flatten [mdO m0 m1 m2 m3 th (nI z) w0 (nI n) ca lt fi sd hs, arC cI m1 1170 (enc B), arC cI m2 60 T, arC cI m3 8 h, arJ cJ o w9, clP cI cZ cS O k g a d w0 c9 f9 z9 V9 T n K G L v]) := hD
  have hq0 := Res_irr (sok' := (cN c z, fN f z, savZ z, vput (savV V z) (B 7))) (rok' := (B 7 12 0).toInt64) hq0 (fun hK9 => by rw [(IV_7 hI (k1_i hK9)).1]; exact ⟨rfl, rfl⟩)
  refine lv_istore (lv' := [(5, .int k9), (0, .ref b), (1, .ref (O 0)), (2, .ref m0), (3, .ref o), (4, .int (nI (3 * t)))]) hx hb dL_law_1008 hl (by decide) rfl (fun ls hl => ?_)
  refine lv_aload_n hx hb dL_law_1010 rfl (lv_at hl 3 rfl) ?_
  refine kcallVE (As := []) (rest := []) (Wn := fun u => [mdO m0 m1 m2 m3 u.1 u.2.2.1 w0 (nI n) ca lt fi sd hs, arC cI m1 1170 (enc u.2.1), arC cI m2 60 T, arC cI m3 8 h, arJ cJ o w9, clP cI cZ cS O k g a d w0 c9 f9 z9 V9 T n K G L v]) X (c_X7_goBack l D cI cZ cS cJ m0 m1 m2 m3 th w0 (nI n) ca lt fi sd hs B T h z hz6) (cwV 0 hts gL_law_X7_goBack rfl rfl rfl (by decide +kernel) ⟨Nat.le_of_ble_eq_true rfl, Nat.le_of_ble_eq_true rfl⟩) hK hP hD hS hA [0, 1, 2, 3] rfl (by decide +kernel) (fun _ => rfl) (fun _ => rfl) (fun _ => rfl) 0 7 rfl rfl rfl hl.1 rfl (Nat.le_of_ble_eq_true rfl) dL_law_1011 ⟨by omega, by omega⟩ (fun uu H locs hu hP hD hS => ?_)
  obtain ⟨th9_1, B9_1, sv9_1, r9_1⟩ := uu
  have hres_1 := hu
  have hP : va_P D vwCl (List.flatten [mdO m0 m1 m2 m3 th9_1 sv9_1 w0 (nI n) ca lt fi sd hs, arC cI m1 1170 (enc B9_1), arC cI m2 60 T, arC cI m3 8 h, arJ cJ o w9, clP cI cZ cS O k g a d w0 c9 f9 z9 V9 T n K G L v]) _ := hP
  have hD : va_D A (List.flatten [mdO m0 m1 m2 m3 th9_1 sv9_1 w0 (nI n) ca lt fi sd hs, arC cI m1 1170 (enc B9_1), arC cI m2 60 T, arC cI m3 8 h, arJ cJ o w9, clP cI cZ cS O k g a d w0 c9 f9 z9 V9 T n K G L v]) := hD
  obtain ⟨hIV, es, hth, hw⟩ := sv_step hI hq0 hres_1 (fun hK9 => GD_up (IV_7 hI (k1_i hK9)).2)
  subst es
  have hP : va_P D vwCl (List.flatten [mdO m0 m1 m2 m3 th9_1 (nI z9) w0 (nI n) ca lt fi sd hs, arC cI m1 1170 (enc B9_1), arC cI m2 60 T, arC cI m3 8 h, arJ cJ o w9, clP cI cZ cS O k g a d w0 c9 f9 z9 V9 T n K G L v]) _ := hP
  have hD : va_D A (List.flatten [mdO m0 m1 m2 m3 th9_1 (nI z9) w0 (nI n) ca lt fi sd hs, arC cI m1 1170 (enc B9_1), arC cI m2 60 T, arC cI m3 8 h, arJ cJ o w9, clP cI cZ cS O k g a d w0 c9 f9 z9 V9 T n K G L v]) := hD
  refine lv_istore (lv' := [(6, .int r9_1), (5, .int k9), (0, .ref b), (1, .ref (O 0)), (2, .ref m0), (3, .ref o), (4, .int (nI (3 * t)))]) hx hb dL_law_1014 hl (by decide) rfl (fun ls hl => ?_)
  refine lv_aload_n hx hb dL_law_1016 rfl (lv_at hl 4 rfl) ?_
  refine kcallV (As := []) (rest := []) (Wn := [mdO m0 m1 m2 m3 th9_1 (nI z9) w0 (nI n) ca lt fi sd hs, arC cI m1 1170 (enc B9_1), arC cI m2 60 T, arC cI m3 8 h, arJ cJ o w9, clP cI cZ cS O k g a d w0 c9 f9 z9 V9 T n K G L v]) X (c_X7_thrown l D cI cZ cS cJ m0 m1 m2 m3 th9_1 (nI z9) w0 (nI n) ca lt fi sd hs B9_1 T h) (cwV 0 hts gL_law_X7_thrown rfl rfl rfl (by decide +kernel) ⟨Nat.le_of_ble_eq_true rfl, Nat.le_of_ble_eq_true rfl⟩) hK hP hD hS hA [0, 1, 2, 3] rfl (by decide +kernel) rfl rfl rfl 0 7 rfl rfl rfl hl.1 rfl (Nat.le_of_ble_eq_true rfl) dL_law_1017 ⟨by omega, by omega⟩ (fun H locs hP hD hS => ?_)
  refine lv_iload hx hb dL_law_1020 (lv_at hl 1 rfl) ?_
  refine lv_icmp_eq (tgt := 1027) hx hb dL_law_1022 (by decide) (fun _ => ?_) (fun h => absurd hth h)
  refine lv_iload hx hb dL_law_1027 (lv_at hl 1 rfl) ?_
  refine lv_if_ne (tgt := 1044) hx hb dL_law_1029 (by decide) (fun q9c => ?_) (fun q9c => ?_)
  · skip
    refine lv_goto (tgt := 1723) hx hb dL_law_1044 (by decide) ?_
    refine W.widen (k := cells + 1) (n := slots + 6) (by omega) (by omega) ?_
    exact hk w0 c9 f9 z9 V9 T n K G L v w9 th9_1 ca lt fi sd hs B9_1 h hIV _ _ _ hP hD hS (lv_sub hl [2, 3, 4, 5, 6] rfl)
  · skip
    refine lv_aload_n hx hb dL_law_1032 rfl (lv_at hl 5 rfl) ?_
    refine lv_iconst (v := 0) hx hb dL_law_1033 (by decide) ?_
    refine va_lald hx hb hK hP 4 3 rfl rfl (vp_in_nI (n := 0) (N := 1) (by omega) (by omega)) dL_law_1034 ?_
    refine lv_iload hx hb dL_law_1035 (lv_at hl 0 rfl) ?_
    refine lv_i2l (v := r9_1.toInt64) hx hb dL_law_1037 rfl ?_
    refine W.lcmp hx hb dL_law_1038 ?_
    refine lv_if_eq (tgt := 1044) hx hb dL_law_1039 (by decide) (fun _ => ?_) (fun h => absurd (by rw [show w9 = _ from hw q9c]; exact lg_same _) h)
    refine lv_goto (tgt := 1723) hx hb dL_law_1044 (by decide) ?_
    refine W.widen (k := cells + 1) (n := slots + 6) (by omega) (by omega) ?_
    exact hk w0 c9 f9 z9 V9 T n K G L v w9 th9_1 ca lt fi sd hs B9_1 h hIV _ _ _ hP hD hS (lv_sub hl [2, 3, 4, 5, 6] rfl)

set_option maxHeartbeats 4000000 in
set_option maxRecDepth 100000 in
theorem lw_undo {p : Program} {e : Env} {s : State} {m : MethodId} {args : Array Value} {below : List Frame} {meth : Method} {cd : Code} {Q : State → Prop} {A : Nat → Prop} (l : Launch) (D : va_G) (cI cZ cS cJ : ClassId) (hl9 : l.stackTraces = false) (X : CallFix p m cd cL_law 9 s args wsL_law RL) (hZ : ZX A s) (hK : va_K D vwCl (tyL cI cZ cS cJ) s) (hA : ∀ q, s.heap.size ≤ q → A q) {b Lx : Nat} {xs : Nat → Int32} (hX : va_X b Lx xs s s.heap) (hbl : b < s.heap.size) (hbA : ¬ A b) (o m0 m1 m2 m3 : Nat) (O k g a d : Nat → Nat) (w0 : Int32) (c : Nat → Nat → Nat) (f : Nat → Option Nat) (z : Nat) (V : Nat → Nat → Nat → Int32) (T : Nat → Int32) (n : Nat) (K G : Nat → Nat → Int32) (L : Nat → Int32) (v : Int32) (ww : Int64) (th ca lt fi sd : Int32) (hs : Int64) (B : Nat → Nat → Nat → Int32) (h : Nat → Int32) (t cells slots : Nat) (ht : t < 600) (hLx : 3 * t + 2 < Lx) (hLx2 : Lx ≤ 1536) (hcs : cells + 1 ≤ room_1.cells ∧ slots + 6 ≤ room_1.slots) (hI : IV t w0 n c f z V B) (hk : KT 1723 p l e s m args below meth cd Q A D cI cZ cS cJ b o m0 m1 m2 m3 O k g a d t (cells + 1) (slots + 6)) (H : Heap) (locs : List Loc) (ls : Array Slot) (hP : va_P D vwCl (List.flatten (LW cI cZ cS cJ o m0 m1 m2 m3 O k g a d w0 c f z V T n K G L v ww th ca lt fi sd hs B h)) H) (hD : va_D A (List.flatten (LW cI cZ cS cJ o m0 m1 m2 m3 O k g a d w0 c f z V T n K G L v ww th ca lt fi sd hs B h))) (hS : va_S A s.heap H locs) (hl : lv_has ls 9 [(0, .ref b), (1, .ref (O 0)), (2, .ref m0), (3, .ref o), (4, .int (nI (3 * t)))]) : W p l e room_1 s m args below meth cd H locs cells slots Q (F0 m 1047 ls []) := by
  obtain ⟨hx, hb, hml, hown, hts⟩ := id X
  have hO : OK (B 0) := hI.2.2.2.1.1
  have hz6 := hI.1.1
  have hn60 := hI.1.2.1
  have hf := hI.1.2.2
  have hV0 : V 0 = B 0 := hI.2.1
  have hOV : OK (V 0) := by rw [hV0]; exact hO
  refine lv_aload_n hx hb dL_law_1047 rfl (lv_at hl 1 rfl) ?_
  refine lv_aload_n hx hb dL_law_1048 rfl (lv_at hl 3 rfl) ?_
  refine kcallHJ (U := (Int32) × (Nat → Nat → Nat) × (Nat → Option Nat) × (Nat) × (Nat → Nat → Nat → Int32) × (Int64)) (As := [.ref (O 0), .ref o]) (rest := []) (Wr := [mdO m0 m1 m2 m3 th (nI z) w0 (nI n) ca lt fi sd hs, arC cI m1 1170 (enc B), arC cI m2 60 T, arC cI m3 8 h]) (Wc := [arJ cJ o ww, clP cI cZ cS O k g a d w0 c f z V T n K G L v]) (Wo := fun u => [arJ cJ o u.2.2.2.2.2, clP cI cZ cS O k g a d w0 u.2.1 u.2.2.1 u.2.2.2.1 u.2.2.2.2.1 T n K G L v]) X hZ (h_undo l D cI cZ cS cJ hl9 O k g a d w0 c f z V T n K G L v o ww  hz6 hf (fun h9 => IV_z hI h9)) (vx_cwSW 2 hts gL_law_L_undo rfl rfl rfl (by decide +kernel) ⟨Nat.le_of_ble_eq_true rfl, Nat.le_of_ble_eq_true rfl⟩) hK hP hD hS hA rfl hl.1 rfl (Nat.le_of_ble_eq_true rfl) dL_law_1049 ⟨by omega, by omega⟩ (fun uu H locs hq0 hP hD hS => ?_)
  obtain ⟨k9, c9, f9, z9, V9, w9⟩ := uu
  have hP : va_P D vwCl (List.flatten [mdO m0 m1 m2 m3 th (nI z) w0 (nI n) ca lt fi sd hs, arC cI m1 1170 (enc B), arC cI m2 60 T, arC cI m3 8 h, arJ cJ o w9, clP cI cZ cS O k g a d w0 c9 f9 z9 V9 T n K G L v]) _ := hP
  have hD : va_D A (List.flatten [mdO m0 m1 m2 m3 th (nI z) w0 (nI n) ca lt fi sd hs, arC cI m1 1170 (enc B), arC cI m2 60 T, arC cI m3 8 h, arJ cJ o w9, clP cI cZ cS O k g a d w0 c9 f9 z9 V9 T n K G L v]) := hD
  refine lv_istore (lv' := [(5, .int k9), (0, .ref b), (1, .ref (O 0)), (2, .ref m0), (3, .ref o), (4, .int (nI (3 * t)))]) hx hb dL_law_1052 hl (by decide) rfl (fun ls hl => ?_)
  refine lv_aload_n hx hb dL_law_1054 rfl (lv_at hl 3 rfl) ?_
  refine kcallVE (As := []) (rest := []) (Wn := fun u => [mdO m0 m1 m2 m3 u.1 u.2.2.1 w0 (nI n) ca lt fi sd hs, arC cI m1 1170 (enc u.2.1), arC cI m2 60 T, arC cI m3 8 h, arJ cJ o w9, clP cI cZ cS O k g a d w0 c9 f9 z9 V9 T n K G L v]) X (c_X7_undo l D cI cZ cS cJ m0 m1 m2 m3 th w0 (nI n) ca lt fi sd hs B T h z hz6) (cwV 0 hts gL_law_X7_undo rfl rfl rfl (by decide +kernel) ⟨Nat.le_of_ble_eq_true rfl, Nat.le_of_ble_eq_true rfl⟩) hK hP hD hS hA [0, 1, 2, 3] rfl (by decide +kernel) (fun _ => rfl) (fun _ => rfl) (fun _ => rfl) 0 7 rfl rfl rfl hl.1 rfl (Nat.le_of_ble_eq_true rfl) dL_law_1055 ⟨by omega, by omega⟩ (fun uu H locs hu hP hD hS => ?_)
  obtain ⟨th9_1, B9_1, sv9_1, r9_1⟩ := uu
  have hres_1 := hu
  have hP : va_P D vwCl (List.flatten [mdO m0 m1 m2 m3 th9_1 sv9_1 w0 (nI n) ca lt fi sd hs, arC cI m1 1170 (enc B9_1), arC cI m2 60 T, arC cI m3 8 h, arJ cJ o w9, clP cI cZ cS O k g a d w0 c9 f9 z9 V9 T n K G L v]) _ := hP
  have hD : va_D A (List.flatten [mdO m0 m1 m2 m3 th9_1 sv9_1 w0 (nI n) ca lt fi sd hs, arC cI m1 1170 (enc B9_1), arC cI m2 60 T, arC cI m3 8 h, arJ cJ o w9, clP cI cZ cS O k g a d w0 c9 f9 z9 V9 T n K G L v]) := hD
  obtain ⟨hIV, es, hth, hw⟩ := un_step hI hq0 hres_1
  subst es
  have hP : va_P D vwCl (List.flatten [mdO m0 m1 m2 m3 th9_1 (nI z9) w0 (nI n) ca lt fi sd hs, arC cI m1 1170 (enc B9_1), arC cI m2 60 T, arC cI m3 8 h, arJ cJ o w9, clP cI cZ cS O k g a d w0 c9 f9 z9 V9 T n K G L v]) _ := hP
  have hD : va_D A (List.flatten [mdO m0 m1 m2 m3 th9_1 (nI z9) w0 (nI n) ca lt fi sd hs, arC cI m1 1170 (enc B9_1), arC cI m2 60 T, arC cI m3 8 h, arJ cJ o w9, clP cI cZ cS O k g a d w0 c9 f9 z9 V9 T n K G L v]) := hD
  refine lv_istore (lv' := [(6, .int r9_1), (5, .int k9), (0, .ref b), (1, .ref (O 0)), (2, .ref m0), (3, .ref o), (4, .int (nI (3 * t)))]) hx hb dL_law_1058 hl (by decide) rfl (fun ls hl => ?_)
  refine lv_aload_n hx hb dL_law_1060 rfl (lv_at hl 4 rfl) ?_
  refine kcallV (As := []) (rest := []) (Wn := [mdO m0 m1 m2 m3 th9_1 (nI z9) w0 (nI n) ca lt fi sd hs, arC cI m1 1170 (enc B9_1), arC cI m2 60 T, arC cI m3 8 h, arJ cJ o w9, clP cI cZ cS O k g a d w0 c9 f9 z9 V9 T n K G L v]) X (c_X7_thrown l D cI cZ cS cJ m0 m1 m2 m3 th9_1 (nI z9) w0 (nI n) ca lt fi sd hs B9_1 T h) (cwV 0 hts gL_law_X7_thrown rfl rfl rfl (by decide +kernel) ⟨Nat.le_of_ble_eq_true rfl, Nat.le_of_ble_eq_true rfl⟩) hK hP hD hS hA [0, 1, 2, 3] rfl (by decide +kernel) rfl rfl rfl 0 7 rfl rfl rfl hl.1 rfl (Nat.le_of_ble_eq_true rfl) dL_law_1061 ⟨by omega, by omega⟩ (fun H locs hP hD hS => ?_)
  refine lv_iload hx hb dL_law_1064 (lv_at hl 1 rfl) ?_
  refine lv_icmp_eq (tgt := 1071) hx hb dL_law_1066 (by decide) (fun _ => ?_) (fun h => absurd hth h)
  refine lv_iload hx hb dL_law_1071 (lv_at hl 1 rfl) ?_
  refine lv_if_ne (tgt := 1088) hx hb dL_law_1073 (by decide) (fun q9c => ?_) (fun q9c => ?_)
  · skip
    refine lv_goto (tgt := 1723) hx hb dL_law_1088 (by decide) ?_
    refine W.widen (k := cells + 1) (n := slots + 6) (by omega) (by omega) ?_
    exact hk w0 c9 f9 z9 V9 T n K G L v w9 th9_1 ca lt fi sd hs B9_1 h hIV _ _ _ hP hD hS (lv_sub hl [2, 3, 4, 5, 6] rfl)
  · skip
    refine lv_aload_n hx hb dL_law_1076 rfl (lv_at hl 5 rfl) ?_
    refine lv_iconst (v := 0) hx hb dL_law_1077 (by decide) ?_
    refine va_lald hx hb hK hP 4 3 rfl rfl (vp_in_nI (n := 0) (N := 1) (by omega) (by omega)) dL_law_1078 ?_
    refine lv_iload hx hb dL_law_1079 (lv_at hl 0 rfl) ?_
    refine lv_i2l (v := r9_1.toInt64) hx hb dL_law_1081 rfl ?_
    refine W.lcmp hx hb dL_law_1082 ?_
    refine lv_if_eq (tgt := 1088) hx hb dL_law_1083 (by decide) (fun _ => ?_) (fun h => absurd (by rw [show w9 = _ from hw q9c]; exact lg_same _) h)
    refine lv_goto (tgt := 1723) hx hb dL_law_1088 (by decide) ?_
    refine W.widen (k := cells + 1) (n := slots + 6) (by omega) (by omega) ?_
    exact hk w0 c9 f9 z9 V9 T n K G L v w9 th9_1 ca lt fi sd hs B9_1 h hIV _ _ _ hP hD hS (lv_sub hl [2, 3, 4, 5, 6] rfl)

set_option maxHeartbeats 4000000 in
set_option maxRecDepth 100000 in
theorem lw_balloon {p : Program} {e : Env} {s : State} {m : MethodId} {args : Array Value} {below : List Frame} {meth : Method} {cd : Code} {Q : State → Prop} {A : Nat → Prop} (l : Launch) (D : va_G) (cI cZ cS cJ : ClassId) (hl9 : l.stackTraces = false) (X : CallFix p m cd cL_law 9 s args wsL_law RL) (hZ : ZX A s) (hK : va_K D vwCl (tyL cI cZ cS cJ) s) (hA : ∀ q, s.heap.size ≤ q → A q) {b Lx : Nat} {xs : Nat → Int32} (hX : va_X b Lx xs s s.heap) (hbl : b < s.heap.size) (hbA : ¬ A b) (o m0 m1 m2 m3 : Nat) (O k g a d : Nat → Nat) (w0 : Int32) (c : Nat → Nat → Nat) (f : Nat → Option Nat) (z : Nat) (V : Nat → Nat → Nat → Int32) (T : Nat → Int32) (n : Nat) (K G : Nat → Nat → Int32) (L : Nat → Int32) (v : Int32) (ww : Int64) (th ca lt fi sd : Int32) (hs : Int64) (B : Nat → Nat → Nat → Int32) (h : Nat → Int32) (t cells slots : Nat) (ht : t < 600) (hLx : 3 * t + 2 < Lx) (hLx2 : Lx ≤ 1536) (hcs : cells + 1 ≤ room_1.cells ∧ slots + 6 ≤ room_1.slots) (hI : IV t w0 n c f z V B) (hk : KT 1723 p l e s m args below meth cd Q A D cI cZ cS cJ b o m0 m1 m2 m3 O k g a d t (cells + 1) (slots + 6)) (H : Heap) (locs : List Loc) (ls : Array Slot) (hP : va_P D vwCl (List.flatten (LW cI cZ cS cJ o m0 m1 m2 m3 O k g a d w0 c f z V T n K G L v ww th ca lt fi sd hs B h)) H) (hD : va_D A (List.flatten (LW cI cZ cS cJ o m0 m1 m2 m3 O k g a d w0 c f z V T n K G L v ww th ca lt fi sd hs B h))) (hS : va_S A s.heap H locs) (hl : lv_has ls 9 [(0, .ref b), (1, .ref (O 0)), (2, .ref m0), (3, .ref o), (4, .int (nI (3 * t)))]) : W p l e room_1 s m args below meth cd H locs cells slots Q (F0 m 1091 ls []) := by
  obtain ⟨hx, hb, hml, hown, hts⟩ := id X
  have hO : OK (B 0) := hI.2.2.2.1.1
  have hz6 := hI.1.1
  have hn60 := hI.1.2.1
  have hf := hI.1.2.2
  have hV0 : V 0 = B 0 := hI.2.1
  have hOV : OK (V 0) := by rw [hV0]; exact hO
  obtain ⟨x, ex⟩ : ∃ x9, xs (3 * t + 1) = x9 := ⟨_, rfl⟩
  obtain ⟨y, ey⟩ : ∃ x9, xs (3 * t + 2) = x9 := ⟨_, rfl⟩
  refine lv_aload_n hx hb dL_law_1091 rfl (lv_at hl 1 rfl) ?_
  refine lv_aload_n hx hb dL_law_1092 rfl (lv_at hl 0 rfl) ?_
  refine lv_iload hx hb dL_law_1093 (lv_at hl 4 rfl) ?_
  refine lv_iconst (v := 1) hx hb dL_law_1095 (by decide) ?_
  refine lv_iadd hx hb dL_law_1096 ?_
  refine lv_eqi (y := nI (3 * t + 1)) (nI_add _ _) ?_
  refine va_sld hx hb hX hbl hbA hS (vp_in_nI (n := 3 * t + 1) (N := Lx) (by omega) (by omega)) dL_law_1097 ?_
  refine lv_eqi (y := x) (by rw [nI_clamp (by omega)]; exact ex) ?_
  refine lv_aload_n hx hb dL_law_1098 rfl (lv_at hl 0 rfl) ?_
  refine lv_iload hx hb dL_law_1099 (lv_at hl 4 rfl) ?_
  refine lv_iconst (v := 2) hx hb dL_law_1101 (by decide) ?_
  refine lv_iadd hx hb dL_law_1102 ?_
  refine lv_eqi (y := nI (3 * t + 2)) (nI_add _ _) ?_
  refine va_sld hx hb hX hbl hbA hS (vp_in_nI (n := 3 * t + 2) (N := Lx) (by omega) (by omega)) dL_law_1103 ?_
  refine lv_eqi (y := y) (by rw [nI_clamp (by omega)]; exact ey) ?_
  refine lv_aload_n hx hb dL_law_1104 rfl (lv_at hl 3 rfl) ?_
  refine kcallHJ (U := (Int32) × (Int64)) (As := [.ref (O 0), .int x, .int y, .ref o]) (rest := []) (Wr := [mdO m0 m1 m2 m3 th (nI z) w0 (nI n) ca lt fi sd hs, arC cI m1 1170 (enc B), arC cI m2 60 T, arC cI m3 8 h]) (Wc := [arJ cJ o ww, clP cI cZ cS O k g a d w0 c f z V T n K G L v]) (Wo := fun u => [arJ cJ o u.2, clP cI cZ cS O k g a d w0 c f z V T n K G L v]) X hZ (h_balloon l D cI cZ cS cJ hl9 O k g a d w0 c f z V T n K G L v o ww x y ) (vx_cwSW 4 hts gL_law_L_balloon rfl rfl rfl (by decide +kernel) ⟨Nat.le_of_ble_eq_true rfl, Nat.le_of_ble_eq_true rfl⟩) hK hP hD hS hA rfl hl.1 rfl (Nat.le_of_ble_eq_true rfl) dL_law_1105 ⟨by omega, by omega⟩ (fun uu H locs hq0 hP hD hS => ?_)
  obtain ⟨k9, w9⟩ := uu
  have hP : va_P D vwCl (List.flatten [mdO m0 m1 m2 m3 th (nI z) w0 (nI n) ca lt fi sd hs, arC cI m1 1170 (enc B), arC cI m2 60 T, arC cI m3 8 h, arJ cJ o w9, clP cI cZ cS O k g a d w0 c f z V T n K G L v]) _ := hP
  have hD : va_D A (List.flatten [mdO m0 m1 m2 m3 th (nI z) w0 (nI n) ca lt fi sd hs, arC cI m1 1170 (enc B), arC cI m2 60 T, arC cI m3 8 h, arJ cJ o w9, clP cI cZ cS O k g a d w0 c f z V T n K G L v]) := hD
  rw [hV0] at hq0
  refine lv_istore (lv' := [(5, .int k9), (0, .ref b), (1, .ref (O 0)), (2, .ref m0), (3, .ref o), (4, .int (nI (3 * t)))]) hx hb dL_law_1108 hl (by decide) rfl (fun ls hl => ?_)
  refine lv_aload_n hx hb dL_law_1110 rfl (lv_at hl 3 rfl) ?_
  refine lv_aload_n hx hb dL_law_1111 rfl (lv_at hl 1 rfl) ?_
  refine lv_iload hx hb dL_law_1112 (lv_at hl 5 rfl) ?_
  refine lv_iconst (v := 1) hx hb dL_law_1114 (by decide) ?_
  refine lv_iadd hx hb dL_law_1115 ?_
  refine lv_eqi (y := nI (3 * t + 1)) (nI_add _ _) ?_
  refine va_sld hx hb hX hbl hbA hS (vp_in_nI (n := 3 * t + 1) (N := Lx) (by omega) (by omega)) dL_law_1116 ?_
  refine lv_eqi (y := x) (by rw [nI_clamp (by omega)]; exact ex) ?_
  refine lv_aload_n hx hb dL_law_1117 rfl (lv_at hl 1 rfl) ?_
  refine lv_iload hx hb dL_law_1118 (lv_at hl 5 rfl) ?_
  refine lv_iconst (v := 2) hx hb dL_law_1120 (by decide) ?_
  refine lv_iadd hx hb dL_law_1121 ?_
  refine lv_eqi (y := nI (3 * t + 2)) (nI_add _ _) ?_
  refine va_sld hx hb hX hbl hbA hS (vp_in_nI (n := 3 * t + 2) (N := Lx) (by omega) (by omega)) dL_law_1122 ?_
  refine lv_eqi (y := y) (by rw [nI_clamp (by omega)]; exact ey) ?_
  refine kcallVE (As := [.int x, .int y]) (rest := []) (Wn := fun u => [mdO m0 m1 m2 m3 u.1 (nI z) w0 (nI n) ca lt fi sd hs, arC cI m1 1170 (enc B), arC cI m2 60 T, arC cI m3 8 u.2.1, arJ cJ o w9, clP cI cZ cS O k g a d w0 c f z V T n K G L v]) X (c_X7_balloon l D cI cZ cS cJ m0 m1 m2 m3 th (nI z) w0 (nI n) ca lt fi sd hs B T h x y hO.1 hO.2.1) (cwV 2 hts gL_law_X7_balloon rfl rfl rfl (by decide +kernel) ⟨Nat.le_of_ble_eq_true rfl, Nat.le_of_ble_eq_true rfl⟩) hK hP hD hS hA [0, 1, 2, 3] rfl (by decide +kernel) (fun _ => rfl) (fun _ => rfl) (fun _ => rfl) 0 7 rfl rfl rfl hl.1 rfl (Nat.le_of_ble_eq_true rfl) dL_law_1123 ⟨by omega, by omega⟩ (fun uu H locs hu hP hD hS => ?_)
  obtain ⟨th9_1, h9_1, r9_1⟩ := uu
  have hlk_1 := hu
  have hP : va_P D vwCl (List.flatten [mdO m0 m1 m2 m3 th9_1 (nI z) w0 (nI n) ca lt fi sd hs, arC cI m1 1170 (enc B), arC cI m2 60 T, arC cI m3 8 h9_1, arJ cJ o w9, clP cI cZ cS O k g a d w0 c f z V T n K G L v]) _ := hP
  have hD : va_D A (List.flatten [mdO m0 m1 m2 m3 th9_1 (nI z) w0 (nI n) ca lt fi sd hs, arC cI m1 1170 (enc B), arC cI m2 60 T, arC cI m3 8 h9_1, arJ cJ o w9, clP cI cZ cS O k g a d w0 c f z V T n K G L v]) := hD
  obtain ⟨hth, hw⟩ := lk_step hq0 hlk_1
  have hIV := IV_up hI
  have hP : va_P D vwCl (List.flatten [mdO m0 m1 m2 m3 th9_1 (nI z) w0 (nI n) ca lt fi sd hs, arC cI m1 1170 (enc B), arC cI m2 60 T, arC cI m3 8 h9_1, arJ cJ o w9, clP cI cZ cS O k g a d w0 c f z V T n K G L v]) _ := hP
  have hD : va_D A (List.flatten [mdO m0 m1 m2 m3 th9_1 (nI z) w0 (nI n) ca lt fi sd hs, arC cI m1 1170 (enc B), arC cI m2 60 T, arC cI m3 8 h9_1, arJ cJ o w9, clP cI cZ cS O k g a d w0 c f z V T n K G L v]) := hD
  refine lv_istore (lv' := [(6, .int r9_1), (5, .int k9), (0, .ref b), (1, .ref (O 0)), (2, .ref m0), (3, .ref o), (4, .int (nI (3 * t)))]) hx hb dL_law_1126 hl (by decide) rfl (fun ls hl => ?_)
  refine lv_aload_n hx hb dL_law_1128 rfl (lv_at hl 4 rfl) ?_
  refine kcallV (As := []) (rest := []) (Wn := [mdO m0 m1 m2 m3 th9_1 (nI z) w0 (nI n) ca lt fi sd hs, arC cI m1 1170 (enc B), arC cI m2 60 T, arC cI m3 8 h9_1, arJ cJ o w9, clP cI cZ cS O k g a d w0 c f z V T n K G L v]) X (c_X7_thrown l D cI cZ cS cJ m0 m1 m2 m3 th9_1 (nI z) w0 (nI n) ca lt fi sd hs B T h9_1) (cwV 0 hts gL_law_X7_thrown rfl rfl rfl (by decide +kernel) ⟨Nat.le_of_ble_eq_true rfl, Nat.le_of_ble_eq_true rfl⟩) hK hP hD hS hA [0, 1, 2, 3] rfl (by decide +kernel) rfl rfl rfl 0 7 rfl rfl rfl hl.1 rfl (Nat.le_of_ble_eq_true rfl) dL_law_1129 ⟨by omega, by omega⟩ (fun H locs hP hD hS => ?_)
  refine lv_iload hx hb dL_law_1132 (lv_at hl 1 rfl) ?_
  refine lv_icmp_eq (tgt := 1139) hx hb dL_law_1134 (by decide) (fun _ => ?_) (fun h => absurd hth h)
  refine lv_iload hx hb dL_law_1139 (lv_at hl 1 rfl) ?_
  refine lv_if_ne (tgt := 1156) hx hb dL_law_1141 (by decide) (fun q9c => ?_) (fun q9c => ?_)
  · skip
    refine lv_goto (tgt := 1723) hx hb dL_law_1156 (by decide) ?_
    refine W.widen (k := cells + 1) (n := slots + 6) (by omega) (by omega) ?_
    exact hk w0 c f z V T n K G L v w9 th9_1 ca lt fi sd hs B h9_1 hIV _ _ _ hP hD hS (lv_sub hl [2, 3, 4, 5, 6] rfl)
  · skip
    refine lv_aload_n hx hb dL_law_1144 rfl (lv_at hl 5 rfl) ?_
    refine lv_iconst (v := 0) hx hb dL_law_1145 (by decide) ?_
    refine va_lald hx hb hK hP 4 3 rfl rfl (vp_in_nI (n := 0) (N := 1) (by omega) (by omega)) dL_law_1146 ?_
    refine lv_iload hx hb dL_law_1147 (lv_at hl 0 rfl) ?_
    refine lv_i2l (v := r9_1.toInt64) hx hb dL_law_1149 rfl ?_
    refine W.lcmp hx hb dL_law_1150 ?_
    refine lv_if_eq (tgt := 1156) hx hb dL_law_1151 (by decide) (fun _ => ?_) (fun h => absurd (by rw [show w9 = _ from hw q9c]; exact lg_same _) h)
    refine lv_goto (tgt := 1723) hx hb dL_law_1156 (by decide) ?_
    refine W.widen (k := cells + 1) (n := slots + 6) (by omega) (by omega) ?_
    exact hk w0 c f z V T n K G L v w9 th9_1 ca lt fi sd hs B h9_1 hIV _ _ _ hP hD hS (lv_sub hl [2, 3, 4, 5, 6] rfl)

set_option maxHeartbeats 4000000 in
set_option maxRecDepth 100000 in
theorem lw_ribbon {p : Program} {e : Env} {s : State} {m : MethodId} {args : Array Value} {below : List Frame} {meth : Method} {cd : Code} {Q : State → Prop} {A : Nat → Prop} (l : Launch) (D : va_G) (cI cZ cS cJ : ClassId) (hl9 : l.stackTraces = false) (X : CallFix p m cd cL_law 9 s args wsL_law RL) (hZ : ZX A s) (hK : va_K D vwCl (tyL cI cZ cS cJ) s) (hA : ∀ q, s.heap.size ≤ q → A q) {b Lx : Nat} {xs : Nat → Int32} (hX : va_X b Lx xs s s.heap) (hbl : b < s.heap.size) (hbA : ¬ A b) (o m0 m1 m2 m3 : Nat) (O k g a d : Nat → Nat) (w0 : Int32) (c : Nat → Nat → Nat) (f : Nat → Option Nat) (z : Nat) (V : Nat → Nat → Nat → Int32) (T : Nat → Int32) (n : Nat) (K G : Nat → Nat → Int32) (L : Nat → Int32) (v : Int32) (ww : Int64) (th ca lt fi sd : Int32) (hs : Int64) (B : Nat → Nat → Nat → Int32) (h : Nat → Int32) (t cells slots : Nat) (ht : t < 600) (hLx : 3 * t + 2 < Lx) (hLx2 : Lx ≤ 1536) (hcs : cells + 1 ≤ room_1.cells ∧ slots + 6 ≤ room_1.slots) (hI : IV t w0 n c f z V B) (hk : KT 1723 p l e s m args below meth cd Q A D cI cZ cS cJ b o m0 m1 m2 m3 O k g a d t (cells + 1) (slots + 6)) (H : Heap) (locs : List Loc) (ls : Array Slot) (hP : va_P D vwCl (List.flatten (LW cI cZ cS cJ o m0 m1 m2 m3 O k g a d w0 c f z V T n K G L v ww th ca lt fi sd hs B h)) H) (hD : va_D A (List.flatten (LW cI cZ cS cJ o m0 m1 m2 m3 O k g a d w0 c f z V T n K G L v ww th ca lt fi sd hs B h))) (hS : va_S A s.heap H locs) (hl : lv_has ls 9 [(0, .ref b), (1, .ref (O 0)), (2, .ref m0), (3, .ref o), (4, .int (nI (3 * t)))]) : W p l e room_1 s m args below meth cd H locs cells slots Q (F0 m 1159 ls []) := by
  obtain ⟨hx, hb, hml, hown, hts⟩ := id X
  have hO : OK (B 0) := hI.2.2.2.1.1
  have hz6 := hI.1.1
  have hn60 := hI.1.2.1
  have hf := hI.1.2.2
  have hV0 : V 0 = B 0 := hI.2.1
  have hOV : OK (V 0) := by rw [hV0]; exact hO
  obtain ⟨x, ex⟩ : ∃ x9, xs (3 * t + 1) = x9 := ⟨_, rfl⟩
  obtain ⟨y, ey⟩ : ∃ x9, xs (3 * t + 2) = x9 := ⟨_, rfl⟩
  refine lv_aload_n hx hb dL_law_1159 rfl (lv_at hl 1 rfl) ?_
  refine lv_aload_n hx hb dL_law_1160 rfl (lv_at hl 0 rfl) ?_
  refine lv_iload hx hb dL_law_1161 (lv_at hl 4 rfl) ?_
  refine lv_iconst (v := 1) hx hb dL_law_1163 (by decide) ?_
  refine lv_iadd hx hb dL_law_1164 ?_
  refine lv_eqi (y := nI (3 * t + 1)) (nI_add _ _) ?_
  refine va_sld hx hb hX hbl hbA hS (vp_in_nI (n := 3 * t + 1) (N := Lx) (by omega) (by omega)) dL_law_1165 ?_
  refine lv_eqi (y := x) (by rw [nI_clamp (by omega)]; exact ex) ?_
  refine lv_aload_n hx hb dL_law_1166 rfl (lv_at hl 0 rfl) ?_
  refine lv_iload hx hb dL_law_1167 (lv_at hl 4 rfl) ?_
  refine lv_iconst (v := 2) hx hb dL_law_1169 (by decide) ?_
  refine lv_iadd hx hb dL_law_1170 ?_
  refine lv_eqi (y := nI (3 * t + 2)) (nI_add _ _) ?_
  refine va_sld hx hb hX hbl hbA hS (vp_in_nI (n := 3 * t + 2) (N := Lx) (by omega) (by omega)) dL_law_1171 ?_
  refine lv_eqi (y := y) (by rw [nI_clamp (by omega)]; exact ey) ?_
  refine lv_aload_n hx hb dL_law_1172 rfl (lv_at hl 3 rfl) ?_
  refine kcallHJ (U := (Int32) × (Int64)) (As := [.ref (O 0), .int x, .int y, .ref o]) (rest := []) (Wr := [mdO m0 m1 m2 m3 th (nI z) w0 (nI n) ca lt fi sd hs, arC cI m1 1170 (enc B), arC cI m2 60 T, arC cI m3 8 h]) (Wc := [arJ cJ o ww, clP cI cZ cS O k g a d w0 c f z V T n K G L v]) (Wo := fun u => [arJ cJ o u.2, clP cI cZ cS O k g a d w0 c f z V T n K G L v]) X hZ (h_ribbon l D cI cZ cS cJ hl9 O k g a d w0 c f z V T n K G L v o ww x y ) (vx_cwSW 4 hts gL_law_L_ribbon rfl rfl rfl (by decide +kernel) ⟨Nat.le_of_ble_eq_true rfl, Nat.le_of_ble_eq_true rfl⟩) hK hP hD hS hA rfl hl.1 rfl (Nat.le_of_ble_eq_true rfl) dL_law_1173 ⟨by omega, by omega⟩ (fun uu H locs hq0 hP hD hS => ?_)
  obtain ⟨k9, w9⟩ := uu
  have hP : va_P D vwCl (List.flatten [mdO m0 m1 m2 m3 th (nI z) w0 (nI n) ca lt fi sd hs, arC cI m1 1170 (enc B), arC cI m2 60 T, arC cI m3 8 h, arJ cJ o w9, clP cI cZ cS O k g a d w0 c f z V T n K G L v]) _ := hP
  have hD : va_D A (List.flatten [mdO m0 m1 m2 m3 th (nI z) w0 (nI n) ca lt fi sd hs, arC cI m1 1170 (enc B), arC cI m2 60 T, arC cI m3 8 h, arJ cJ o w9, clP cI cZ cS O k g a d w0 c f z V T n K G L v]) := hD
  rw [hV0] at hq0
  refine lv_istore (lv' := [(5, .int k9), (0, .ref b), (1, .ref (O 0)), (2, .ref m0), (3, .ref o), (4, .int (nI (3 * t)))]) hx hb dL_law_1176 hl (by decide) rfl (fun ls hl => ?_)
  refine lv_aload_n hx hb dL_law_1178 rfl (lv_at hl 3 rfl) ?_
  refine lv_aload_n hx hb dL_law_1179 rfl (lv_at hl 1 rfl) ?_
  refine lv_iload hx hb dL_law_1180 (lv_at hl 5 rfl) ?_
  refine lv_iconst (v := 1) hx hb dL_law_1182 (by decide) ?_
  refine lv_iadd hx hb dL_law_1183 ?_
  refine lv_eqi (y := nI (3 * t + 1)) (nI_add _ _) ?_
  refine va_sld hx hb hX hbl hbA hS (vp_in_nI (n := 3 * t + 1) (N := Lx) (by omega) (by omega)) dL_law_1184 ?_
  refine lv_eqi (y := x) (by rw [nI_clamp (by omega)]; exact ex) ?_
  refine lv_aload_n hx hb dL_law_1185 rfl (lv_at hl 1 rfl) ?_
  refine lv_iload hx hb dL_law_1186 (lv_at hl 5 rfl) ?_
  refine lv_iconst (v := 2) hx hb dL_law_1188 (by decide) ?_
  refine lv_iadd hx hb dL_law_1189 ?_
  refine lv_eqi (y := nI (3 * t + 2)) (nI_add _ _) ?_
  refine va_sld hx hb hX hbl hbA hS (vp_in_nI (n := 3 * t + 2) (N := Lx) (by omega) (by omega)) dL_law_1190 ?_
  refine lv_eqi (y := y) (by rw [nI_clamp (by omega)]; exact ey) ?_
  refine kcallVE (As := [.int x, .int y]) (rest := []) (Wn := fun u => [mdO m0 m1 m2 m3 u.1 (nI z) w0 (nI n) ca lt fi sd hs, arC cI m1 1170 (enc B), arC cI m2 60 T, arC cI m3 8 u.2.1, arJ cJ o w9, clP cI cZ cS O k g a d w0 c f z V T n K G L v]) X (c_X7_ribbon l D cI cZ cS cJ m0 m1 m2 m3 th (nI z) w0 (nI n) ca lt fi sd hs B T h x y hO.1 hO.2.1) (cwV 2 hts gL_law_X7_ribbon rfl rfl rfl (by decide +kernel) ⟨Nat.le_of_ble_eq_true rfl, Nat.le_of_ble_eq_true rfl⟩) hK hP hD hS hA [0, 1, 2, 3] rfl (by decide +kernel) (fun _ => rfl) (fun _ => rfl) (fun _ => rfl) 0 7 rfl rfl rfl hl.1 rfl (Nat.le_of_ble_eq_true rfl) dL_law_1191 ⟨by omega, by omega⟩ (fun uu H locs hu hP hD hS => ?_)
  obtain ⟨th9_1, h9_1, r9_1⟩ := uu
  have hlk_1 := hu
  have hP : va_P D vwCl (List.flatten [mdO m0 m1 m2 m3 th9_1 (nI z) w0 (nI n) ca lt fi sd hs, arC cI m1 1170 (enc B), arC cI m2 60 T, arC cI m3 8 h9_1, arJ cJ o w9, clP cI cZ cS O k g a d w0 c f z V T n K G L v]) _ := hP
  have hD : va_D A (List.flatten [mdO m0 m1 m2 m3 th9_1 (nI z) w0 (nI n) ca lt fi sd hs, arC cI m1 1170 (enc B), arC cI m2 60 T, arC cI m3 8 h9_1, arJ cJ o w9, clP cI cZ cS O k g a d w0 c f z V T n K G L v]) := hD
  obtain ⟨hth, hw⟩ := lk_step hq0 hlk_1
  have hIV := IV_up hI
  have hP : va_P D vwCl (List.flatten [mdO m0 m1 m2 m3 th9_1 (nI z) w0 (nI n) ca lt fi sd hs, arC cI m1 1170 (enc B), arC cI m2 60 T, arC cI m3 8 h9_1, arJ cJ o w9, clP cI cZ cS O k g a d w0 c f z V T n K G L v]) _ := hP
  have hD : va_D A (List.flatten [mdO m0 m1 m2 m3 th9_1 (nI z) w0 (nI n) ca lt fi sd hs, arC cI m1 1170 (enc B), arC cI m2 60 T, arC cI m3 8 h9_1, arJ cJ o w9, clP cI cZ cS O k g a d w0 c f z V T n K G L v]) := hD
  refine lv_istore (lv' := [(6, .int r9_1), (5, .int k9), (0, .ref b), (1, .ref (O 0)), (2, .ref m0), (3, .ref o), (4, .int (nI (3 * t)))]) hx hb dL_law_1194 hl (by decide) rfl (fun ls hl => ?_)
  refine lv_aload_n hx hb dL_law_1196 rfl (lv_at hl 4 rfl) ?_
  refine kcallV (As := []) (rest := []) (Wn := [mdO m0 m1 m2 m3 th9_1 (nI z) w0 (nI n) ca lt fi sd hs, arC cI m1 1170 (enc B), arC cI m2 60 T, arC cI m3 8 h9_1, arJ cJ o w9, clP cI cZ cS O k g a d w0 c f z V T n K G L v]) X (c_X7_thrown l D cI cZ cS cJ m0 m1 m2 m3 th9_1 (nI z) w0 (nI n) ca lt fi sd hs B T h9_1) (cwV 0 hts gL_law_X7_thrown rfl rfl rfl (by decide +kernel) ⟨Nat.le_of_ble_eq_true rfl, Nat.le_of_ble_eq_true rfl⟩) hK hP hD hS hA [0, 1, 2, 3] rfl (by decide +kernel) rfl rfl rfl 0 7 rfl rfl rfl hl.1 rfl (Nat.le_of_ble_eq_true rfl) dL_law_1197 ⟨by omega, by omega⟩ (fun H locs hP hD hS => ?_)
  refine lv_iload hx hb dL_law_1200 (lv_at hl 1 rfl) ?_
  refine lv_icmp_eq (tgt := 1207) hx hb dL_law_1202 (by decide) (fun _ => ?_) (fun h => absurd hth h)
  refine lv_iload hx hb dL_law_1207 (lv_at hl 1 rfl) ?_
  refine lv_if_ne (tgt := 1224) hx hb dL_law_1209 (by decide) (fun q9c => ?_) (fun q9c => ?_)
  · skip
    refine lv_goto (tgt := 1723) hx hb dL_law_1224 (by decide) ?_
    refine W.widen (k := cells + 1) (n := slots + 6) (by omega) (by omega) ?_
    exact hk w0 c f z V T n K G L v w9 th9_1 ca lt fi sd hs B h9_1 hIV _ _ _ hP hD hS (lv_sub hl [2, 3, 4, 5, 6] rfl)
  · skip
    refine lv_aload_n hx hb dL_law_1212 rfl (lv_at hl 5 rfl) ?_
    refine lv_iconst (v := 0) hx hb dL_law_1213 (by decide) ?_
    refine va_lald hx hb hK hP 4 3 rfl rfl (vp_in_nI (n := 0) (N := 1) (by omega) (by omega)) dL_law_1214 ?_
    refine lv_iload hx hb dL_law_1215 (lv_at hl 0 rfl) ?_
    refine lv_i2l (v := r9_1.toInt64) hx hb dL_law_1217 rfl ?_
    refine W.lcmp hx hb dL_law_1218 ?_
    refine lv_if_eq (tgt := 1224) hx hb dL_law_1219 (by decide) (fun _ => ?_) (fun h => absurd (by rw [show w9 = _ from hw q9c]; exact lg_same _) h)
    refine lv_goto (tgt := 1723) hx hb dL_law_1224 (by decide) ?_
    refine W.widen (k := cells + 1) (n := slots + 6) (by omega) (by omega) ?_
    exact hk w0 c f z V T n K G L v w9 th9_1 ca lt fi sd hs B h9_1 hIV _ _ _ hP hD hS (lv_sub hl [2, 3, 4, 5, 6] rfl)

set_option maxHeartbeats 4000000 in
set_option maxRecDepth 100000 in
theorem lw_noted {p : Program} {e : Env} {s : State} {m : MethodId} {args : Array Value} {below : List Frame} {meth : Method} {cd : Code} {Q : State → Prop} {A : Nat → Prop} (l : Launch) (D : va_G) (cI cZ cS cJ : ClassId) (hl9 : l.stackTraces = false) (X : CallFix p m cd cL_law 9 s args wsL_law RL) (hZ : ZX A s) (hK : va_K D vwCl (tyL cI cZ cS cJ) s) (hA : ∀ q, s.heap.size ≤ q → A q) {b Lx : Nat} {xs : Nat → Int32} (hX : va_X b Lx xs s s.heap) (hbl : b < s.heap.size) (hbA : ¬ A b) (o m0 m1 m2 m3 : Nat) (O k g a d : Nat → Nat) (w0 : Int32) (c : Nat → Nat → Nat) (f : Nat → Option Nat) (z : Nat) (V : Nat → Nat → Nat → Int32) (T : Nat → Int32) (n : Nat) (K G : Nat → Nat → Int32) (L : Nat → Int32) (v : Int32) (ww : Int64) (th ca lt fi sd : Int32) (hs : Int64) (B : Nat → Nat → Nat → Int32) (h : Nat → Int32) (t cells slots : Nat) (ht : t < 600) (hLx : 3 * t + 2 < Lx) (hLx2 : Lx ≤ 1536) (hcs : cells + 1 ≤ room_1.cells ∧ slots + 6 ≤ room_1.slots) (hI : IV t w0 n c f z V B) (hk : KT 1723 p l e s m args below meth cd Q A D cI cZ cS cJ b o m0 m1 m2 m3 O k g a d t (cells + 1) (slots + 6)) (H : Heap) (locs : List Loc) (ls : Array Slot) (hP : va_P D vwCl (List.flatten (LW cI cZ cS cJ o m0 m1 m2 m3 O k g a d w0 c f z V T n K G L v ww th ca lt fi sd hs B h)) H) (hD : va_D A (List.flatten (LW cI cZ cS cJ o m0 m1 m2 m3 O k g a d w0 c f z V T n K G L v ww th ca lt fi sd hs B h))) (hS : va_S A s.heap H locs) (hl : lv_has ls 9 [(0, .ref b), (1, .ref (O 0)), (2, .ref m0), (3, .ref o), (4, .int (nI (3 * t)))]) : W p l e room_1 s m args below meth cd H locs cells slots Q (F0 m 1227 ls []) := by
  obtain ⟨hx, hb, hml, hown, hts⟩ := id X
  have hO : OK (B 0) := hI.2.2.2.1.1
  have hz6 := hI.1.1
  have hn60 := hI.1.2.1
  have hf := hI.1.2.2
  have hV0 : V 0 = B 0 := hI.2.1
  have hOV : OK (V 0) := by rw [hV0]; exact hO
  obtain ⟨x, ex⟩ : ∃ x9, xs (3 * t + 1) = x9 := ⟨_, rfl⟩
  obtain ⟨y, ey⟩ : ∃ x9, xs (3 * t + 2) = x9 := ⟨_, rfl⟩
  refine lv_aload_n hx hb dL_law_1227 rfl (lv_at hl 1 rfl) ?_
  refine lv_aload_n hx hb dL_law_1228 rfl (lv_at hl 0 rfl) ?_
  refine lv_iload hx hb dL_law_1229 (lv_at hl 4 rfl) ?_
  refine lv_iconst (v := 1) hx hb dL_law_1231 (by decide) ?_
  refine lv_iadd hx hb dL_law_1232 ?_
  refine lv_eqi (y := nI (3 * t + 1)) (nI_add _ _) ?_
  refine va_sld hx hb hX hbl hbA hS (vp_in_nI (n := 3 * t + 1) (N := Lx) (by omega) (by omega)) dL_law_1233 ?_
  refine lv_eqi (y := x) (by rw [nI_clamp (by omega)]; exact ex) ?_
  refine lv_aload_n hx hb dL_law_1234 rfl (lv_at hl 0 rfl) ?_
  refine lv_iload hx hb dL_law_1235 (lv_at hl 4 rfl) ?_
  refine lv_iconst (v := 2) hx hb dL_law_1237 (by decide) ?_
  refine lv_iadd hx hb dL_law_1238 ?_
  refine lv_eqi (y := nI (3 * t + 2)) (nI_add _ _) ?_
  refine va_sld hx hb hX hbl hbA hS (vp_in_nI (n := 3 * t + 2) (N := Lx) (by omega) (by omega)) dL_law_1239 ?_
  refine lv_eqi (y := y) (by rw [nI_clamp (by omega)]; exact ey) ?_
  refine lv_aload_n hx hb dL_law_1240 rfl (lv_at hl 3 rfl) ?_
  refine kcallHJ (U := (Int32) × (Int64)) (As := [.ref (O 0), .int x, .int y, .ref o]) (rest := []) (Wr := [mdO m0 m1 m2 m3 th (nI z) w0 (nI n) ca lt fi sd hs, arC cI m1 1170 (enc B), arC cI m2 60 T, arC cI m3 8 h]) (Wc := [arJ cJ o ww, clP cI cZ cS O k g a d w0 c f z V T n K G L v]) (Wo := fun u => [arJ cJ o u.2, clP cI cZ cS O k g a d w0 c f z V T n K G L v]) X hZ (h_noted l D cI cZ cS cJ hl9 O k g a d w0 c f z V T n K G L v o ww x y hOV) (vx_cwSW 4 hts gL_law_L_noted rfl rfl rfl (by decide +kernel) ⟨Nat.le_of_ble_eq_true rfl, Nat.le_of_ble_eq_true rfl⟩) hK hP hD hS hA rfl hl.1 rfl (Nat.le_of_ble_eq_true rfl) dL_law_1241 ⟨by omega, by omega⟩ (fun uu H locs hq0 hP hD hS => ?_)
  obtain ⟨k9, w9⟩ := uu
  have hP : va_P D vwCl (List.flatten [mdO m0 m1 m2 m3 th (nI z) w0 (nI n) ca lt fi sd hs, arC cI m1 1170 (enc B), arC cI m2 60 T, arC cI m3 8 h, arJ cJ o w9, clP cI cZ cS O k g a d w0 c f z V T n K G L v]) _ := hP
  have hD : va_D A (List.flatten [mdO m0 m1 m2 m3 th (nI z) w0 (nI n) ca lt fi sd hs, arC cI m1 1170 (enc B), arC cI m2 60 T, arC cI m3 8 h, arJ cJ o w9, clP cI cZ cS O k g a d w0 c f z V T n K G L v]) := hD
  rw [hV0] at hq0
  refine lv_istore (lv' := [(5, .int k9), (0, .ref b), (1, .ref (O 0)), (2, .ref m0), (3, .ref o), (4, .int (nI (3 * t)))]) hx hb dL_law_1244 hl (by decide) rfl (fun ls hl => ?_)
  refine lv_aload_n hx hb dL_law_1246 rfl (lv_at hl 3 rfl) ?_
  refine lv_aload_n hx hb dL_law_1247 rfl (lv_at hl 1 rfl) ?_
  refine lv_iload hx hb dL_law_1248 (lv_at hl 5 rfl) ?_
  refine lv_iconst (v := 1) hx hb dL_law_1250 (by decide) ?_
  refine lv_iadd hx hb dL_law_1251 ?_
  refine lv_eqi (y := nI (3 * t + 1)) (nI_add _ _) ?_
  refine va_sld hx hb hX hbl hbA hS (vp_in_nI (n := 3 * t + 1) (N := Lx) (by omega) (by omega)) dL_law_1252 ?_
  refine lv_eqi (y := x) (by rw [nI_clamp (by omega)]; exact ex) ?_
  refine lv_aload_n hx hb dL_law_1253 rfl (lv_at hl 1 rfl) ?_
  refine lv_iload hx hb dL_law_1254 (lv_at hl 5 rfl) ?_
  refine lv_iconst (v := 2) hx hb dL_law_1256 (by decide) ?_
  refine lv_iadd hx hb dL_law_1257 ?_
  refine lv_eqi (y := nI (3 * t + 2)) (nI_add _ _) ?_
  refine va_sld hx hb hX hbl hbA hS (vp_in_nI (n := 3 * t + 2) (N := Lx) (by omega) (by omega)) dL_law_1258 ?_
  refine lv_eqi (y := y) (by rw [nI_clamp (by omega)]; exact ey) ?_
  refine kcallVE (As := [.int x, .int y]) (rest := []) (Wn := fun u => [mdO m0 m1 m2 m3 u.1 (nI z) w0 (nI n) ca lt fi sd hs, arC cI m1 1170 (enc B), arC cI m2 60 T, arC cI m3 8 h, arJ cJ o w9, clP cI cZ cS O k g a d w0 c f z V T n K G L v]) X (c_X7_noted l D cI cZ cS cJ m0 m1 m2 m3 th (nI z) w0 (nI n) ca lt fi sd hs B T h (cy (B 0)) x y hO.1 hO.2.1 hO.2.2.1 hO.2.2.2) (cwV 2 hts gL_law_X7_noted rfl rfl rfl (by decide +kernel) ⟨Nat.le_of_ble_eq_true rfl, Nat.le_of_ble_eq_true rfl⟩) hK hP hD hS hA [0, 1, 2, 3] rfl (by decide +kernel) (fun _ => rfl) (fun _ => rfl) (fun _ => rfl) 0 7 rfl rfl rfl hl.1 rfl (Nat.le_of_ble_eq_true rfl) dL_law_1259 ⟨by omega, by omega⟩ (fun uu H locs hu hP hD hS => ?_)
  obtain ⟨th9_1, r9_1⟩ := uu
  have hlk_1 := hu
  have hP : va_P D vwCl (List.flatten [mdO m0 m1 m2 m3 th9_1 (nI z) w0 (nI n) ca lt fi sd hs, arC cI m1 1170 (enc B), arC cI m2 60 T, arC cI m3 8 h, arJ cJ o w9, clP cI cZ cS O k g a d w0 c f z V T n K G L v]) _ := hP
  have hD : va_D A (List.flatten [mdO m0 m1 m2 m3 th9_1 (nI z) w0 (nI n) ca lt fi sd hs, arC cI m1 1170 (enc B), arC cI m2 60 T, arC cI m3 8 h, arJ cJ o w9, clP cI cZ cS O k g a d w0 c f z V T n K G L v]) := hD
  obtain ⟨hth, hw⟩ := lk_step hq0 hlk_1
  have hIV := IV_up hI
  have hP : va_P D vwCl (List.flatten [mdO m0 m1 m2 m3 th9_1 (nI z) w0 (nI n) ca lt fi sd hs, arC cI m1 1170 (enc B), arC cI m2 60 T, arC cI m3 8 h, arJ cJ o w9, clP cI cZ cS O k g a d w0 c f z V T n K G L v]) _ := hP
  have hD : va_D A (List.flatten [mdO m0 m1 m2 m3 th9_1 (nI z) w0 (nI n) ca lt fi sd hs, arC cI m1 1170 (enc B), arC cI m2 60 T, arC cI m3 8 h, arJ cJ o w9, clP cI cZ cS O k g a d w0 c f z V T n K G L v]) := hD
  refine lv_istore (lv' := [(6, .int r9_1), (5, .int k9), (0, .ref b), (1, .ref (O 0)), (2, .ref m0), (3, .ref o), (4, .int (nI (3 * t)))]) hx hb dL_law_1262 hl (by decide) rfl (fun ls hl => ?_)
  refine lv_aload_n hx hb dL_law_1264 rfl (lv_at hl 4 rfl) ?_
  refine kcallV (As := []) (rest := []) (Wn := [mdO m0 m1 m2 m3 th9_1 (nI z) w0 (nI n) ca lt fi sd hs, arC cI m1 1170 (enc B), arC cI m2 60 T, arC cI m3 8 h, arJ cJ o w9, clP cI cZ cS O k g a d w0 c f z V T n K G L v]) X (c_X7_thrown l D cI cZ cS cJ m0 m1 m2 m3 th9_1 (nI z) w0 (nI n) ca lt fi sd hs B T h) (cwV 0 hts gL_law_X7_thrown rfl rfl rfl (by decide +kernel) ⟨Nat.le_of_ble_eq_true rfl, Nat.le_of_ble_eq_true rfl⟩) hK hP hD hS hA [0, 1, 2, 3] rfl (by decide +kernel) rfl rfl rfl 0 7 rfl rfl rfl hl.1 rfl (Nat.le_of_ble_eq_true rfl) dL_law_1265 ⟨by omega, by omega⟩ (fun H locs hP hD hS => ?_)
  refine lv_iload hx hb dL_law_1268 (lv_at hl 1 rfl) ?_
  refine lv_icmp_eq (tgt := 1275) hx hb dL_law_1270 (by decide) (fun _ => ?_) (fun h => absurd hth h)
  refine lv_iload hx hb dL_law_1275 (lv_at hl 1 rfl) ?_
  refine lv_if_ne (tgt := 1292) hx hb dL_law_1277 (by decide) (fun q9c => ?_) (fun q9c => ?_)
  · skip
    refine lv_goto (tgt := 1723) hx hb dL_law_1292 (by decide) ?_
    refine W.widen (k := cells + 1) (n := slots + 6) (by omega) (by omega) ?_
    exact hk w0 c f z V T n K G L v w9 th9_1 ca lt fi sd hs B h hIV _ _ _ hP hD hS (lv_sub hl [2, 3, 4, 5, 6] rfl)
  · skip
    refine lv_aload_n hx hb dL_law_1280 rfl (lv_at hl 5 rfl) ?_
    refine lv_iconst (v := 0) hx hb dL_law_1281 (by decide) ?_
    refine va_lald hx hb hK hP 4 3 rfl rfl (vp_in_nI (n := 0) (N := 1) (by omega) (by omega)) dL_law_1282 ?_
    refine lv_iload hx hb dL_law_1283 (lv_at hl 0 rfl) ?_
    refine lv_i2l (v := r9_1.toInt64) hx hb dL_law_1285 rfl ?_
    refine W.lcmp hx hb dL_law_1286 ?_
    refine lv_if_eq (tgt := 1292) hx hb dL_law_1287 (by decide) (fun _ => ?_) (fun h => absurd (by rw [show w9 = _ from hw q9c]; exact lg_same _) h)
    refine lv_goto (tgt := 1723) hx hb dL_law_1292 (by decide) ?_
    refine W.widen (k := cells + 1) (n := slots + 6) (by omega) (by omega) ?_
    exact hk w0 c f z V T n K G L v w9 th9_1 ca lt fi sd hs B h hIV _ _ _ hP hD hS (lv_sub hl [2, 3, 4, 5, 6] rfl)

set_option maxHeartbeats 4000000 in
set_option maxRecDepth 100000 in
theorem lw_count {p : Program} {e : Env} {s : State} {m : MethodId} {args : Array Value} {below : List Frame} {meth : Method} {cd : Code} {Q : State → Prop} {A : Nat → Prop} (l : Launch) (D : va_G) (cI cZ cS cJ : ClassId) (hl9 : l.stackTraces = false) (X : CallFix p m cd cL_law 9 s args wsL_law RL) (hZ : ZX A s) (hK : va_K D vwCl (tyL cI cZ cS cJ) s) (hA : ∀ q, s.heap.size ≤ q → A q) {b Lx : Nat} {xs : Nat → Int32} (hX : va_X b Lx xs s s.heap) (hbl : b < s.heap.size) (hbA : ¬ A b) (o m0 m1 m2 m3 : Nat) (O k g a d : Nat → Nat) (w0 : Int32) (c : Nat → Nat → Nat) (f : Nat → Option Nat) (z : Nat) (V : Nat → Nat → Nat → Int32) (T : Nat → Int32) (n : Nat) (K G : Nat → Nat → Int32) (L : Nat → Int32) (v : Int32) (ww : Int64) (th ca lt fi sd : Int32) (hs : Int64) (B : Nat → Nat → Nat → Int32) (h : Nat → Int32) (t cells slots : Nat) (ht : t < 600) (hLx : 3 * t + 2 < Lx) (hLx2 : Lx ≤ 1536) (hcs : cells + 1 ≤ room_1.cells ∧ slots + 6 ≤ room_1.slots) (hI : IV t w0 n c f z V B) (hk : KT 1723 p l e s m args below meth cd Q A D cI cZ cS cJ b o m0 m1 m2 m3 O k g a d t (cells + 1) (slots + 6)) (H : Heap) (locs : List Loc) (ls : Array Slot) (hP : va_P D vwCl (List.flatten (LW cI cZ cS cJ o m0 m1 m2 m3 O k g a d w0 c f z V T n K G L v ww th ca lt fi sd hs B h)) H) (hD : va_D A (List.flatten (LW cI cZ cS cJ o m0 m1 m2 m3 O k g a d w0 c f z V T n K G L v ww th ca lt fi sd hs B h))) (hS : va_S A s.heap H locs) (hl : lv_has ls 9 [(0, .ref b), (1, .ref (O 0)), (2, .ref m0), (3, .ref o), (4, .int (nI (3 * t)))]) : W p l e room_1 s m args below meth cd H locs cells slots Q (F0 m 1295 ls []) := by
  obtain ⟨hx, hb, hml, hown, hts⟩ := id X
  have hO : OK (B 0) := hI.2.2.2.1.1
  have hz6 := hI.1.1
  have hn60 := hI.1.2.1
  have hf := hI.1.2.2
  have hV0 : V 0 = B 0 := hI.2.1
  have hOV : OK (V 0) := by rw [hV0]; exact hO
  obtain ⟨x, ex⟩ : ∃ x9, xs (3 * t + 1) = x9 := ⟨_, rfl⟩
  refine lv_aload_n hx hb dL_law_1295 rfl (lv_at hl 1 rfl) ?_
  refine lv_aload_n hx hb dL_law_1296 rfl (lv_at hl 0 rfl) ?_
  refine lv_iload hx hb dL_law_1297 (lv_at hl 4 rfl) ?_
  refine lv_iconst (v := 1) hx hb dL_law_1299 (by decide) ?_
  refine lv_iadd hx hb dL_law_1300 ?_
  refine lv_eqi (y := nI (3 * t + 1)) (nI_add _ _) ?_
  refine va_sld hx hb hX hbl hbA hS (vp_in_nI (n := 3 * t + 1) (N := Lx) (by omega) (by omega)) dL_law_1301 ?_
  refine lv_eqi (y := x) (by rw [nI_clamp (by omega)]; exact ex) ?_
  refine lv_aload_n hx hb dL_law_1302 rfl (lv_at hl 3 rfl) ?_
  refine kcallHJ (U := (Int32) × (Int64)) (As := [.ref (O 0), .int x, .ref o]) (rest := []) (Wr := [mdO m0 m1 m2 m3 th (nI z) w0 (nI n) ca lt fi sd hs, arC cI m1 1170 (enc B), arC cI m2 60 T, arC cI m3 8 h]) (Wc := [arJ cJ o ww, clP cI cZ cS O k g a d w0 c f z V T n K G L v]) (Wo := fun u => [arJ cJ o u.2, clP cI cZ cS O k g a d w0 c f z V T n K G L v]) X hZ (h_count l D cI cZ cS cJ hl9 O k g a d w0 c f z V T n K G L v o ww x ) (vx_cwSW 3 hts gL_law_L_count rfl rfl rfl (by decide +kernel) ⟨Nat.le_of_ble_eq_true rfl, Nat.le_of_ble_eq_true rfl⟩) hK hP hD hS hA rfl hl.1 rfl (Nat.le_of_ble_eq_true rfl) dL_law_1303 ⟨by omega, by omega⟩ (fun uu H locs hq0 hP hD hS => ?_)
  obtain ⟨k9, w9⟩ := uu
  have hP : va_P D vwCl (List.flatten [mdO m0 m1 m2 m3 th (nI z) w0 (nI n) ca lt fi sd hs, arC cI m1 1170 (enc B), arC cI m2 60 T, arC cI m3 8 h, arJ cJ o w9, clP cI cZ cS O k g a d w0 c f z V T n K G L v]) _ := hP
  have hD : va_D A (List.flatten [mdO m0 m1 m2 m3 th (nI z) w0 (nI n) ca lt fi sd hs, arC cI m1 1170 (enc B), arC cI m2 60 T, arC cI m3 8 h, arJ cJ o w9, clP cI cZ cS O k g a d w0 c f z V T n K G L v]) := hD
  rw [hV0] at hq0
  refine lv_istore (lv' := [(5, .int k9), (0, .ref b), (1, .ref (O 0)), (2, .ref m0), (3, .ref o), (4, .int (nI (3 * t)))]) hx hb dL_law_1306 hl (by decide) rfl (fun ls hl => ?_)
  refine lv_aload_n hx hb dL_law_1308 rfl (lv_at hl 3 rfl) ?_
  refine lv_aload_n hx hb dL_law_1309 rfl (lv_at hl 1 rfl) ?_
  refine lv_iload hx hb dL_law_1310 (lv_at hl 5 rfl) ?_
  refine lv_iconst (v := 1) hx hb dL_law_1312 (by decide) ?_
  refine lv_iadd hx hb dL_law_1313 ?_
  refine lv_eqi (y := nI (3 * t + 1)) (nI_add _ _) ?_
  refine va_sld hx hb hX hbl hbA hS (vp_in_nI (n := 3 * t + 1) (N := Lx) (by omega) (by omega)) dL_law_1314 ?_
  refine lv_eqi (y := x) (by rw [nI_clamp (by omega)]; exact ex) ?_
  refine kcallVE (As := [.int x]) (rest := []) (Wn := fun u => [mdO m0 m1 m2 m3 u.1 (nI z) w0 (nI n) ca lt fi sd hs, arC cI m1 1170 (enc B), arC cI m2 60 T, arC cI m3 8 u.2.1, arJ cJ o w9, clP cI cZ cS O k g a d w0 c f z V T n K G L v]) X (c_X7_count l D cI cZ cS cJ m0 m1 m2 m3 th w0 (nI n) ca lt fi sd hs B T h z x hO.1 hO.2.1 hz6) (cwV 1 hts gL_law_X7_count rfl rfl rfl (by decide +kernel) ⟨Nat.le_of_ble_eq_true rfl, Nat.le_of_ble_eq_true rfl⟩) hK hP hD hS hA [0, 1, 2, 3] rfl (by decide +kernel) (fun _ => rfl) (fun _ => rfl) (fun _ => rfl) 0 7 rfl rfl rfl hl.1 rfl (Nat.le_of_ble_eq_true rfl) dL_law_1315 ⟨by omega, by omega⟩ (fun uu H locs hu hP hD hS => ?_)
  obtain ⟨th9_1, h9_1, r9_1⟩ := uu
  have hlk_1 := hu
  have hP : va_P D vwCl (List.flatten [mdO m0 m1 m2 m3 th9_1 (nI z) w0 (nI n) ca lt fi sd hs, arC cI m1 1170 (enc B), arC cI m2 60 T, arC cI m3 8 h9_1, arJ cJ o w9, clP cI cZ cS O k g a d w0 c f z V T n K G L v]) _ := hP
  have hD : va_D A (List.flatten [mdO m0 m1 m2 m3 th9_1 (nI z) w0 (nI n) ca lt fi sd hs, arC cI m1 1170 (enc B), arC cI m2 60 T, arC cI m3 8 h9_1, arJ cJ o w9, clP cI cZ cS O k g a d w0 c f z V T n K G L v]) := hD
  obtain ⟨hth, hw⟩ := lk_step hq0 hlk_1
  have hIV := IV_up hI
  have hP : va_P D vwCl (List.flatten [mdO m0 m1 m2 m3 th9_1 (nI z) w0 (nI n) ca lt fi sd hs, arC cI m1 1170 (enc B), arC cI m2 60 T, arC cI m3 8 h9_1, arJ cJ o w9, clP cI cZ cS O k g a d w0 c f z V T n K G L v]) _ := hP
  have hD : va_D A (List.flatten [mdO m0 m1 m2 m3 th9_1 (nI z) w0 (nI n) ca lt fi sd hs, arC cI m1 1170 (enc B), arC cI m2 60 T, arC cI m3 8 h9_1, arJ cJ o w9, clP cI cZ cS O k g a d w0 c f z V T n K G L v]) := hD
  refine lv_istore (lv' := [(6, .int r9_1), (5, .int k9), (0, .ref b), (1, .ref (O 0)), (2, .ref m0), (3, .ref o), (4, .int (nI (3 * t)))]) hx hb dL_law_1318 hl (by decide) rfl (fun ls hl => ?_)
  refine lv_aload_n hx hb dL_law_1320 rfl (lv_at hl 4 rfl) ?_
  refine kcallV (As := []) (rest := []) (Wn := [mdO m0 m1 m2 m3 th9_1 (nI z) w0 (nI n) ca lt fi sd hs, arC cI m1 1170 (enc B), arC cI m2 60 T, arC cI m3 8 h9_1, arJ cJ o w9, clP cI cZ cS O k g a d w0 c f z V T n K G L v]) X (c_X7_thrown l D cI cZ cS cJ m0 m1 m2 m3 th9_1 (nI z) w0 (nI n) ca lt fi sd hs B T h9_1) (cwV 0 hts gL_law_X7_thrown rfl rfl rfl (by decide +kernel) ⟨Nat.le_of_ble_eq_true rfl, Nat.le_of_ble_eq_true rfl⟩) hK hP hD hS hA [0, 1, 2, 3] rfl (by decide +kernel) rfl rfl rfl 0 7 rfl rfl rfl hl.1 rfl (Nat.le_of_ble_eq_true rfl) dL_law_1321 ⟨by omega, by omega⟩ (fun H locs hP hD hS => ?_)
  refine lv_iload hx hb dL_law_1324 (lv_at hl 1 rfl) ?_
  refine lv_icmp_eq (tgt := 1331) hx hb dL_law_1326 (by decide) (fun _ => ?_) (fun h => absurd hth h)
  refine lv_iload hx hb dL_law_1331 (lv_at hl 1 rfl) ?_
  refine lv_if_ne (tgt := 1348) hx hb dL_law_1333 (by decide) (fun q9c => ?_) (fun q9c => ?_)
  · skip
    refine lv_goto (tgt := 1723) hx hb dL_law_1348 (by decide) ?_
    refine W.widen (k := cells + 1) (n := slots + 6) (by omega) (by omega) ?_
    exact hk w0 c f z V T n K G L v w9 th9_1 ca lt fi sd hs B h9_1 hIV _ _ _ hP hD hS (lv_sub hl [2, 3, 4, 5, 6] rfl)
  · skip
    refine lv_aload_n hx hb dL_law_1336 rfl (lv_at hl 5 rfl) ?_
    refine lv_iconst (v := 0) hx hb dL_law_1337 (by decide) ?_
    refine va_lald hx hb hK hP 4 3 rfl rfl (vp_in_nI (n := 0) (N := 1) (by omega) (by omega)) dL_law_1338 ?_
    refine lv_iload hx hb dL_law_1339 (lv_at hl 0 rfl) ?_
    refine lv_i2l (v := r9_1.toInt64) hx hb dL_law_1341 rfl ?_
    refine W.lcmp hx hb dL_law_1342 ?_
    refine lv_if_eq (tgt := 1348) hx hb dL_law_1343 (by decide) (fun _ => ?_) (fun h => absurd (by rw [show w9 = _ from hw q9c]; exact lg_same _) h)
    refine lv_goto (tgt := 1723) hx hb dL_law_1348 (by decide) ?_
    refine W.widen (k := cells + 1) (n := slots + 6) (by omega) (by omega) ?_
    exact hk w0 c f z V T n K G L v w9 th9_1 ca lt fi sd hs B h9_1 hIV _ _ _ hP hD hS (lv_sub hl [2, 3, 4, 5, 6] rfl)

set_option maxHeartbeats 4000000 in
set_option maxRecDepth 100000 in
theorem lw_why {p : Program} {e : Env} {s : State} {m : MethodId} {args : Array Value} {below : List Frame} {meth : Method} {cd : Code} {Q : State → Prop} {A : Nat → Prop} (l : Launch) (D : va_G) (cI cZ cS cJ : ClassId) (hl9 : l.stackTraces = false) (X : CallFix p m cd cL_law 9 s args wsL_law RL) (hZ : ZX A s) (hK : va_K D vwCl (tyL cI cZ cS cJ) s) (hA : ∀ q, s.heap.size ≤ q → A q) {b Lx : Nat} {xs : Nat → Int32} (hX : va_X b Lx xs s s.heap) (hbl : b < s.heap.size) (hbA : ¬ A b) (o m0 m1 m2 m3 : Nat) (O k g a d : Nat → Nat) (w0 : Int32) (c : Nat → Nat → Nat) (f : Nat → Option Nat) (z : Nat) (V : Nat → Nat → Nat → Int32) (T : Nat → Int32) (n : Nat) (K G : Nat → Nat → Int32) (L : Nat → Int32) (v : Int32) (ww : Int64) (th ca lt fi sd : Int32) (hs : Int64) (B : Nat → Nat → Nat → Int32) (h : Nat → Int32) (t cells slots : Nat) (ht : t < 600) (hLx : 3 * t + 2 < Lx) (hLx2 : Lx ≤ 1536) (hcs : cells + 1 ≤ room_1.cells ∧ slots + 6 ≤ room_1.slots) (hI : IV t w0 n c f z V B) (hk : KT 1723 p l e s m args below meth cd Q A D cI cZ cS cJ b o m0 m1 m2 m3 O k g a d t (cells + 1) (slots + 6)) (H : Heap) (locs : List Loc) (ls : Array Slot) (hP : va_P D vwCl (List.flatten (LW cI cZ cS cJ o m0 m1 m2 m3 O k g a d w0 c f z V T n K G L v ww th ca lt fi sd hs B h)) H) (hD : va_D A (List.flatten (LW cI cZ cS cJ o m0 m1 m2 m3 O k g a d w0 c f z V T n K G L v ww th ca lt fi sd hs B h))) (hS : va_S A s.heap H locs) (hl : lv_has ls 9 [(0, .ref b), (1, .ref (O 0)), (2, .ref m0), (3, .ref o), (4, .int (nI (3 * t)))]) : W p l e room_1 s m args below meth cd H locs cells slots Q (F0 m 1351 ls []) := by
  obtain ⟨hx, hb, hml, hown, hts⟩ := id X
  have hO : OK (B 0) := hI.2.2.2.1.1
  have hz6 := hI.1.1
  have hn60 := hI.1.2.1
  have hf := hI.1.2.2
  have hV0 : V 0 = B 0 := hI.2.1
  have hOV : OK (V 0) := by rw [hV0]; exact hO
  obtain ⟨x, ex⟩ : ∃ x9, xs (3 * t + 1) = x9 := ⟨_, rfl⟩
  obtain ⟨y, ey⟩ : ∃ x9, xs (3 * t + 2) = x9 := ⟨_, rfl⟩
  refine lv_aload_n hx hb dL_law_1351 rfl (lv_at hl 1 rfl) ?_
  refine lv_aload_n hx hb dL_law_1352 rfl (lv_at hl 0 rfl) ?_
  refine lv_iload hx hb dL_law_1353 (lv_at hl 4 rfl) ?_
  refine lv_iconst (v := 1) hx hb dL_law_1355 (by decide) ?_
  refine lv_iadd hx hb dL_law_1356 ?_
  refine lv_eqi (y := nI (3 * t + 1)) (nI_add _ _) ?_
  refine va_sld hx hb hX hbl hbA hS (vp_in_nI (n := 3 * t + 1) (N := Lx) (by omega) (by omega)) dL_law_1357 ?_
  refine lv_eqi (y := x) (by rw [nI_clamp (by omega)]; exact ex) ?_
  refine lv_aload_n hx hb dL_law_1358 rfl (lv_at hl 0 rfl) ?_
  refine lv_iload hx hb dL_law_1359 (lv_at hl 4 rfl) ?_
  refine lv_iconst (v := 2) hx hb dL_law_1361 (by decide) ?_
  refine lv_iadd hx hb dL_law_1362 ?_
  refine lv_eqi (y := nI (3 * t + 2)) (nI_add _ _) ?_
  refine va_sld hx hb hX hbl hbA hS (vp_in_nI (n := 3 * t + 2) (N := Lx) (by omega) (by omega)) dL_law_1363 ?_
  refine lv_eqi (y := y) (by rw [nI_clamp (by omega)]; exact ey) ?_
  refine lv_aload_n hx hb dL_law_1364 rfl (lv_at hl 3 rfl) ?_
  refine kcallHJ (U := (Int32) × (Int64)) (As := [.ref (O 0), .int x, .int y, .ref o]) (rest := []) (Wr := [mdO m0 m1 m2 m3 th (nI z) w0 (nI n) ca lt fi sd hs, arC cI m1 1170 (enc B), arC cI m2 60 T, arC cI m3 8 h]) (Wc := [arJ cJ o ww, clP cI cZ cS O k g a d w0 c f z V T n K G L v]) (Wo := fun u => [arJ cJ o u.2, clP cI cZ cS O k g a d w0 c f z V T n K G L v]) X hZ (h_why l D cI cZ cS cJ hl9 O k g a d w0 c f z V T n K G L v o ww x y ) (vx_cwSW 4 hts gL_law_L_why rfl rfl rfl (by decide +kernel) ⟨Nat.le_of_ble_eq_true rfl, Nat.le_of_ble_eq_true rfl⟩) hK hP hD hS hA rfl hl.1 rfl (Nat.le_of_ble_eq_true rfl) dL_law_1365 ⟨by omega, by omega⟩ (fun uu H locs hq0 hP hD hS => ?_)
  obtain ⟨k9, w9⟩ := uu
  have hP : va_P D vwCl (List.flatten [mdO m0 m1 m2 m3 th (nI z) w0 (nI n) ca lt fi sd hs, arC cI m1 1170 (enc B), arC cI m2 60 T, arC cI m3 8 h, arJ cJ o w9, clP cI cZ cS O k g a d w0 c f z V T n K G L v]) _ := hP
  have hD : va_D A (List.flatten [mdO m0 m1 m2 m3 th (nI z) w0 (nI n) ca lt fi sd hs, arC cI m1 1170 (enc B), arC cI m2 60 T, arC cI m3 8 h, arJ cJ o w9, clP cI cZ cS O k g a d w0 c f z V T n K G L v]) := hD
  rw [hV0] at hq0
  refine lv_istore (lv' := [(5, .int k9), (0, .ref b), (1, .ref (O 0)), (2, .ref m0), (3, .ref o), (4, .int (nI (3 * t)))]) hx hb dL_law_1368 hl (by decide) rfl (fun ls hl => ?_)
  refine lv_aload_n hx hb dL_law_1370 rfl (lv_at hl 3 rfl) ?_
  refine lv_aload_n hx hb dL_law_1371 rfl (lv_at hl 1 rfl) ?_
  refine lv_iload hx hb dL_law_1372 (lv_at hl 5 rfl) ?_
  refine lv_iconst (v := 1) hx hb dL_law_1374 (by decide) ?_
  refine lv_iadd hx hb dL_law_1375 ?_
  refine lv_eqi (y := nI (3 * t + 1)) (nI_add _ _) ?_
  refine va_sld hx hb hX hbl hbA hS (vp_in_nI (n := 3 * t + 1) (N := Lx) (by omega) (by omega)) dL_law_1376 ?_
  refine lv_eqi (y := x) (by rw [nI_clamp (by omega)]; exact ex) ?_
  refine lv_aload_n hx hb dL_law_1377 rfl (lv_at hl 1 rfl) ?_
  refine lv_iload hx hb dL_law_1378 (lv_at hl 5 rfl) ?_
  refine lv_iconst (v := 2) hx hb dL_law_1380 (by decide) ?_
  refine lv_iadd hx hb dL_law_1381 ?_
  refine lv_eqi (y := nI (3 * t + 2)) (nI_add _ _) ?_
  refine va_sld hx hb hX hbl hbA hS (vp_in_nI (n := 3 * t + 2) (N := Lx) (by omega) (by omega)) dL_law_1382 ?_
  refine lv_eqi (y := y) (by rw [nI_clamp (by omega)]; exact ey) ?_
  refine kcallVE (As := [.int x, .int y]) (rest := []) (Wn := fun u => [mdO m0 m1 m2 m3 u.1 (nI z) w0 (nI n) ca lt fi sd hs, arC cI m1 1170 (enc B), arC cI m2 60 T, arC cI m3 8 u.2.1, arJ cJ o w9, clP cI cZ cS O k g a d w0 c f z V T n K G L v]) X (c_X7_why l D cI cZ cS cJ m0 m1 m2 m3 th (nI z) w0 (nI n) ca lt fi sd hs B T h x y hO.1 hO.2.1) (cwV 2 hts gL_law_X7_why rfl rfl rfl (by decide +kernel) ⟨Nat.le_of_ble_eq_true rfl, Nat.le_of_ble_eq_true rfl⟩) hK hP hD hS hA [0, 1, 2, 3] rfl (by decide +kernel) (fun _ => rfl) (fun _ => rfl) (fun _ => rfl) 0 7 rfl rfl rfl hl.1 rfl (Nat.le_of_ble_eq_true rfl) dL_law_1383 ⟨by omega, by omega⟩ (fun uu H locs hu hP hD hS => ?_)
  obtain ⟨th9_1, h9_1, r9_1⟩ := uu
  have hlk_1 := hu
  have hP : va_P D vwCl (List.flatten [mdO m0 m1 m2 m3 th9_1 (nI z) w0 (nI n) ca lt fi sd hs, arC cI m1 1170 (enc B), arC cI m2 60 T, arC cI m3 8 h9_1, arJ cJ o w9, clP cI cZ cS O k g a d w0 c f z V T n K G L v]) _ := hP
  have hD : va_D A (List.flatten [mdO m0 m1 m2 m3 th9_1 (nI z) w0 (nI n) ca lt fi sd hs, arC cI m1 1170 (enc B), arC cI m2 60 T, arC cI m3 8 h9_1, arJ cJ o w9, clP cI cZ cS O k g a d w0 c f z V T n K G L v]) := hD
  obtain ⟨hth, hw⟩ := lk_step hq0 hlk_1
  have hIV := IV_up hI
  have hP : va_P D vwCl (List.flatten [mdO m0 m1 m2 m3 th9_1 (nI z) w0 (nI n) ca lt fi sd hs, arC cI m1 1170 (enc B), arC cI m2 60 T, arC cI m3 8 h9_1, arJ cJ o w9, clP cI cZ cS O k g a d w0 c f z V T n K G L v]) _ := hP
  have hD : va_D A (List.flatten [mdO m0 m1 m2 m3 th9_1 (nI z) w0 (nI n) ca lt fi sd hs, arC cI m1 1170 (enc B), arC cI m2 60 T, arC cI m3 8 h9_1, arJ cJ o w9, clP cI cZ cS O k g a d w0 c f z V T n K G L v]) := hD
  refine lv_istore (lv' := [(6, .int r9_1), (5, .int k9), (0, .ref b), (1, .ref (O 0)), (2, .ref m0), (3, .ref o), (4, .int (nI (3 * t)))]) hx hb dL_law_1386 hl (by decide) rfl (fun ls hl => ?_)
  refine lv_aload_n hx hb dL_law_1388 rfl (lv_at hl 4 rfl) ?_
  refine kcallV (As := []) (rest := []) (Wn := [mdO m0 m1 m2 m3 th9_1 (nI z) w0 (nI n) ca lt fi sd hs, arC cI m1 1170 (enc B), arC cI m2 60 T, arC cI m3 8 h9_1, arJ cJ o w9, clP cI cZ cS O k g a d w0 c f z V T n K G L v]) X (c_X7_thrown l D cI cZ cS cJ m0 m1 m2 m3 th9_1 (nI z) w0 (nI n) ca lt fi sd hs B T h9_1) (cwV 0 hts gL_law_X7_thrown rfl rfl rfl (by decide +kernel) ⟨Nat.le_of_ble_eq_true rfl, Nat.le_of_ble_eq_true rfl⟩) hK hP hD hS hA [0, 1, 2, 3] rfl (by decide +kernel) rfl rfl rfl 0 7 rfl rfl rfl hl.1 rfl (Nat.le_of_ble_eq_true rfl) dL_law_1389 ⟨by omega, by omega⟩ (fun H locs hP hD hS => ?_)
  refine lv_iload hx hb dL_law_1392 (lv_at hl 1 rfl) ?_
  refine lv_icmp_eq (tgt := 1399) hx hb dL_law_1394 (by decide) (fun _ => ?_) (fun h => absurd hth h)
  refine lv_iload hx hb dL_law_1399 (lv_at hl 1 rfl) ?_
  refine lv_if_ne (tgt := 1416) hx hb dL_law_1401 (by decide) (fun q9c => ?_) (fun q9c => ?_)
  · skip
    refine lv_goto (tgt := 1723) hx hb dL_law_1416 (by decide) ?_
    refine W.widen (k := cells + 1) (n := slots + 6) (by omega) (by omega) ?_
    exact hk w0 c f z V T n K G L v w9 th9_1 ca lt fi sd hs B h9_1 hIV _ _ _ hP hD hS (lv_sub hl [2, 3, 4, 5, 6] rfl)
  · skip
    refine lv_aload_n hx hb dL_law_1404 rfl (lv_at hl 5 rfl) ?_
    refine lv_iconst (v := 0) hx hb dL_law_1405 (by decide) ?_
    refine va_lald hx hb hK hP 4 3 rfl rfl (vp_in_nI (n := 0) (N := 1) (by omega) (by omega)) dL_law_1406 ?_
    refine lv_iload hx hb dL_law_1407 (lv_at hl 0 rfl) ?_
    refine lv_i2l (v := r9_1.toInt64) hx hb dL_law_1409 rfl ?_
    refine W.lcmp hx hb dL_law_1410 ?_
    refine lv_if_eq (tgt := 1416) hx hb dL_law_1411 (by decide) (fun _ => ?_) (fun h => absurd (by rw [show w9 = _ from hw q9c]; exact lg_same _) h)
    refine lv_goto (tgt := 1723) hx hb dL_law_1416 (by decide) ?_
    refine W.widen (k := cells + 1) (n := slots + 6) (by omega) (by omega) ?_
    exact hk w0 c f z V T n K G L v w9 th9_1 ca lt fi sd hs B h9_1 hIV _ _ _ hP hD hS (lv_sub hl [2, 3, 4, 5, 6] rfl)

set_option maxHeartbeats 4000000 in
set_option maxRecDepth 100000 in
theorem lw_stopped {p : Program} {e : Env} {s : State} {m : MethodId} {args : Array Value} {below : List Frame} {meth : Method} {cd : Code} {Q : State → Prop} {A : Nat → Prop} (l : Launch) (D : va_G) (cI cZ cS cJ : ClassId) (hl9 : l.stackTraces = false) (X : CallFix p m cd cL_law 9 s args wsL_law RL) (hZ : ZX A s) (hK : va_K D vwCl (tyL cI cZ cS cJ) s) (hA : ∀ q, s.heap.size ≤ q → A q) {b Lx : Nat} {xs : Nat → Int32} (hX : va_X b Lx xs s s.heap) (hbl : b < s.heap.size) (hbA : ¬ A b) (o m0 m1 m2 m3 : Nat) (O k g a d : Nat → Nat) (w0 : Int32) (c : Nat → Nat → Nat) (f : Nat → Option Nat) (z : Nat) (V : Nat → Nat → Nat → Int32) (T : Nat → Int32) (n : Nat) (K G : Nat → Nat → Int32) (L : Nat → Int32) (v : Int32) (ww : Int64) (th ca lt fi sd : Int32) (hs : Int64) (B : Nat → Nat → Nat → Int32) (h : Nat → Int32) (t cells slots : Nat) (ht : t < 600) (hLx : 3 * t + 2 < Lx) (hLx2 : Lx ≤ 1536) (hcs : cells + 1 ≤ room_1.cells ∧ slots + 6 ≤ room_1.slots) (hI : IV t w0 n c f z V B) (hk : KT 1723 p l e s m args below meth cd Q A D cI cZ cS cJ b o m0 m1 m2 m3 O k g a d t (cells + 1) (slots + 6)) (H : Heap) (locs : List Loc) (ls : Array Slot) (hP : va_P D vwCl (List.flatten (LW cI cZ cS cJ o m0 m1 m2 m3 O k g a d w0 c f z V T n K G L v ww th ca lt fi sd hs B h)) H) (hD : va_D A (List.flatten (LW cI cZ cS cJ o m0 m1 m2 m3 O k g a d w0 c f z V T n K G L v ww th ca lt fi sd hs B h))) (hS : va_S A s.heap H locs) (hl : lv_has ls 9 [(0, .ref b), (1, .ref (O 0)), (2, .ref m0), (3, .ref o), (4, .int (nI (3 * t)))]) : W p l e room_1 s m args below meth cd H locs cells slots Q (F0 m 1419 ls []) := by
  obtain ⟨hx, hb, hml, hown, hts⟩ := id X
  have hO : OK (B 0) := hI.2.2.2.1.1
  have hz6 := hI.1.1
  have hn60 := hI.1.2.1
  have hf := hI.1.2.2
  have hV0 : V 0 = B 0 := hI.2.1
  have hOV : OK (V 0) := by rw [hV0]; exact hO
  obtain ⟨x, ex⟩ : ∃ x9, xs (3 * t + 1) = x9 := ⟨_, rfl⟩
  refine lv_aload_n hx hb dL_law_1419 rfl (lv_at hl 1 rfl) ?_
  refine lv_aload_n hx hb dL_law_1420 rfl (lv_at hl 0 rfl) ?_
  refine lv_iload hx hb dL_law_1421 (lv_at hl 4 rfl) ?_
  refine lv_iconst (v := 1) hx hb dL_law_1423 (by decide) ?_
  refine lv_iadd hx hb dL_law_1424 ?_
  refine lv_eqi (y := nI (3 * t + 1)) (nI_add _ _) ?_
  refine va_sld hx hb hX hbl hbA hS (vp_in_nI (n := 3 * t + 1) (N := Lx) (by omega) (by omega)) dL_law_1425 ?_
  refine lv_eqi (y := x) (by rw [nI_clamp (by omega)]; exact ex) ?_
  refine lv_aload_n hx hb dL_law_1426 rfl (lv_at hl 3 rfl) ?_
  refine kcallHJ (U := (Int32) × (Int64)) (As := [.ref (O 0), .int x, .ref o]) (rest := []) (Wr := [mdO m0 m1 m2 m3 th (nI z) w0 (nI n) ca lt fi sd hs, arC cI m1 1170 (enc B), arC cI m2 60 T, arC cI m3 8 h]) (Wc := [arJ cJ o ww, clP cI cZ cS O k g a d w0 c f z V T n K G L v]) (Wo := fun u => [arJ cJ o u.2, clP cI cZ cS O k g a d w0 c f z V T n K G L v]) X hZ (h_stopped l D cI cZ cS cJ hl9 O k g a d w0 c f z V T n K G L v o ww x ) (vx_cwSW 3 hts gL_law_L_stopped rfl rfl rfl (by decide +kernel) ⟨Nat.le_of_ble_eq_true rfl, Nat.le_of_ble_eq_true rfl⟩) hK hP hD hS hA rfl hl.1 rfl (Nat.le_of_ble_eq_true rfl) dL_law_1427 ⟨by omega, by omega⟩ (fun uu H locs hq0 hP hD hS => ?_)
  obtain ⟨k9, w9⟩ := uu
  have hP : va_P D vwCl (List.flatten [mdO m0 m1 m2 m3 th (nI z) w0 (nI n) ca lt fi sd hs, arC cI m1 1170 (enc B), arC cI m2 60 T, arC cI m3 8 h, arJ cJ o w9, clP cI cZ cS O k g a d w0 c f z V T n K G L v]) _ := hP
  have hD : va_D A (List.flatten [mdO m0 m1 m2 m3 th (nI z) w0 (nI n) ca lt fi sd hs, arC cI m1 1170 (enc B), arC cI m2 60 T, arC cI m3 8 h, arJ cJ o w9, clP cI cZ cS O k g a d w0 c f z V T n K G L v]) := hD
  rw [hV0] at hq0
  refine lv_istore (lv' := [(5, .int k9), (0, .ref b), (1, .ref (O 0)), (2, .ref m0), (3, .ref o), (4, .int (nI (3 * t)))]) hx hb dL_law_1430 hl (by decide) rfl (fun ls hl => ?_)
  refine lv_aload_n hx hb dL_law_1432 rfl (lv_at hl 3 rfl) ?_
  refine lv_aload_n hx hb dL_law_1433 rfl (lv_at hl 1 rfl) ?_
  refine lv_iload hx hb dL_law_1434 (lv_at hl 5 rfl) ?_
  refine lv_iconst (v := 1) hx hb dL_law_1436 (by decide) ?_
  refine lv_iadd hx hb dL_law_1437 ?_
  refine lv_eqi (y := nI (3 * t + 1)) (nI_add _ _) ?_
  refine va_sld hx hb hX hbl hbA hS (vp_in_nI (n := 3 * t + 1) (N := Lx) (by omega) (by omega)) dL_law_1438 ?_
  refine lv_eqi (y := x) (by rw [nI_clamp (by omega)]; exact ex) ?_
  refine kcallVE (As := [.int x]) (rest := []) (Wn := fun u => [mdO m0 m1 m2 m3 u.1 (nI z) w0 (nI n) ca lt fi sd hs, arC cI m1 1170 (enc B), arC cI m2 60 T, arC cI m3 8 h, arJ cJ o w9, clP cI cZ cS O k g a d w0 c f z V T n K G L v]) X (c_X7_stopped l D cI cZ cS cJ m0 m1 m2 m3 th (nI z) w0 (nI n) ca lt fi sd hs B T h x hO.1 hO.2.1) (cwV 1 hts gL_law_X7_stopped rfl rfl rfl (by decide +kernel) ⟨Nat.le_of_ble_eq_true rfl, Nat.le_of_ble_eq_true rfl⟩) hK hP hD hS hA [0, 1, 2, 3] rfl (by decide +kernel) (fun _ => rfl) (fun _ => rfl) (fun _ => rfl) 0 7 rfl rfl rfl hl.1 rfl (Nat.le_of_ble_eq_true rfl) dL_law_1439 ⟨by omega, by omega⟩ (fun uu H locs hu hP hD hS => ?_)
  obtain ⟨th9_1, r9_1⟩ := uu
  have hlk_1 := hu
  have hP : va_P D vwCl (List.flatten [mdO m0 m1 m2 m3 th9_1 (nI z) w0 (nI n) ca lt fi sd hs, arC cI m1 1170 (enc B), arC cI m2 60 T, arC cI m3 8 h, arJ cJ o w9, clP cI cZ cS O k g a d w0 c f z V T n K G L v]) _ := hP
  have hD : va_D A (List.flatten [mdO m0 m1 m2 m3 th9_1 (nI z) w0 (nI n) ca lt fi sd hs, arC cI m1 1170 (enc B), arC cI m2 60 T, arC cI m3 8 h, arJ cJ o w9, clP cI cZ cS O k g a d w0 c f z V T n K G L v]) := hD
  obtain ⟨hth, hw⟩ := lk_step hq0 hlk_1
  have hIV := IV_up hI
  have hP : va_P D vwCl (List.flatten [mdO m0 m1 m2 m3 th9_1 (nI z) w0 (nI n) ca lt fi sd hs, arC cI m1 1170 (enc B), arC cI m2 60 T, arC cI m3 8 h, arJ cJ o w9, clP cI cZ cS O k g a d w0 c f z V T n K G L v]) _ := hP
  have hD : va_D A (List.flatten [mdO m0 m1 m2 m3 th9_1 (nI z) w0 (nI n) ca lt fi sd hs, arC cI m1 1170 (enc B), arC cI m2 60 T, arC cI m3 8 h, arJ cJ o w9, clP cI cZ cS O k g a d w0 c f z V T n K G L v]) := hD
  refine lv_istore (lv' := [(6, .int r9_1), (5, .int k9), (0, .ref b), (1, .ref (O 0)), (2, .ref m0), (3, .ref o), (4, .int (nI (3 * t)))]) hx hb dL_law_1442 hl (by decide) rfl (fun ls hl => ?_)
  refine lv_aload_n hx hb dL_law_1444 rfl (lv_at hl 4 rfl) ?_
  refine kcallV (As := []) (rest := []) (Wn := [mdO m0 m1 m2 m3 th9_1 (nI z) w0 (nI n) ca lt fi sd hs, arC cI m1 1170 (enc B), arC cI m2 60 T, arC cI m3 8 h, arJ cJ o w9, clP cI cZ cS O k g a d w0 c f z V T n K G L v]) X (c_X7_thrown l D cI cZ cS cJ m0 m1 m2 m3 th9_1 (nI z) w0 (nI n) ca lt fi sd hs B T h) (cwV 0 hts gL_law_X7_thrown rfl rfl rfl (by decide +kernel) ⟨Nat.le_of_ble_eq_true rfl, Nat.le_of_ble_eq_true rfl⟩) hK hP hD hS hA [0, 1, 2, 3] rfl (by decide +kernel) rfl rfl rfl 0 7 rfl rfl rfl hl.1 rfl (Nat.le_of_ble_eq_true rfl) dL_law_1445 ⟨by omega, by omega⟩ (fun H locs hP hD hS => ?_)
  refine lv_iload hx hb dL_law_1448 (lv_at hl 1 rfl) ?_
  refine lv_icmp_eq (tgt := 1455) hx hb dL_law_1450 (by decide) (fun _ => ?_) (fun h => absurd hth h)
  refine lv_iload hx hb dL_law_1455 (lv_at hl 1 rfl) ?_
  refine lv_if_ne (tgt := 1472) hx hb dL_law_1457 (by decide) (fun q9c => ?_) (fun q9c => ?_)
  · skip
    refine lv_goto (tgt := 1723) hx hb dL_law_1472 (by decide) ?_
    refine W.widen (k := cells + 1) (n := slots + 6) (by omega) (by omega) ?_
    exact hk w0 c f z V T n K G L v w9 th9_1 ca lt fi sd hs B h hIV _ _ _ hP hD hS (lv_sub hl [2, 3, 4, 5, 6] rfl)
  · skip
    refine lv_aload_n hx hb dL_law_1460 rfl (lv_at hl 5 rfl) ?_
    refine lv_iconst (v := 0) hx hb dL_law_1461 (by decide) ?_
    refine va_lald hx hb hK hP 4 3 rfl rfl (vp_in_nI (n := 0) (N := 1) (by omega) (by omega)) dL_law_1462 ?_
    refine lv_iload hx hb dL_law_1463 (lv_at hl 0 rfl) ?_
    refine lv_i2l (v := r9_1.toInt64) hx hb dL_law_1465 rfl ?_
    refine W.lcmp hx hb dL_law_1466 ?_
    refine lv_if_eq (tgt := 1472) hx hb dL_law_1467 (by decide) (fun _ => ?_) (fun h => absurd (by rw [show w9 = _ from hw q9c]; exact lg_same _) h)
    refine lv_goto (tgt := 1723) hx hb dL_law_1472 (by decide) ?_
    refine W.widen (k := cells + 1) (n := slots + 6) (by omega) (by omega) ?_
    exact hk w0 c f z V T n K G L v w9 th9_1 ca lt fi sd hs B h hIV _ _ _ hP hD hS (lv_sub hl [2, 3, 4, 5, 6] rfl)

set_option maxHeartbeats 4000000 in
set_option maxRecDepth 100000 in
theorem lw_ifDropped {p : Program} {e : Env} {s : State} {m : MethodId} {args : Array Value} {below : List Frame} {meth : Method} {cd : Code} {Q : State → Prop} {A : Nat → Prop} (l : Launch) (D : va_G) (cI cZ cS cJ : ClassId) (hl9 : l.stackTraces = false) (X : CallFix p m cd cL_law 9 s args wsL_law RL) (hZ : ZX A s) (hK : va_K D vwCl (tyL cI cZ cS cJ) s) (hA : ∀ q, s.heap.size ≤ q → A q) {b Lx : Nat} {xs : Nat → Int32} (hX : va_X b Lx xs s s.heap) (hbl : b < s.heap.size) (hbA : ¬ A b) (o m0 m1 m2 m3 : Nat) (O k g a d : Nat → Nat) (w0 : Int32) (c : Nat → Nat → Nat) (f : Nat → Option Nat) (z : Nat) (V : Nat → Nat → Nat → Int32) (T : Nat → Int32) (n : Nat) (K G : Nat → Nat → Int32) (L : Nat → Int32) (v : Int32) (ww : Int64) (th ca lt fi sd : Int32) (hs : Int64) (B : Nat → Nat → Nat → Int32) (h : Nat → Int32) (t cells slots : Nat) (ht : t < 600) (hLx : 3 * t + 2 < Lx) (hLx2 : Lx ≤ 1536) (hcs : cells + 1 ≤ room_1.cells ∧ slots + 6 ≤ room_1.slots) (hI : IV t w0 n c f z V B) (hk : KT 1723 p l e s m args below meth cd Q A D cI cZ cS cJ b o m0 m1 m2 m3 O k g a d t (cells + 1) (slots + 6)) (H : Heap) (locs : List Loc) (ls : Array Slot) (hP : va_P D vwCl (List.flatten (LW cI cZ cS cJ o m0 m1 m2 m3 O k g a d w0 c f z V T n K G L v ww th ca lt fi sd hs B h)) H) (hD : va_D A (List.flatten (LW cI cZ cS cJ o m0 m1 m2 m3 O k g a d w0 c f z V T n K G L v ww th ca lt fi sd hs B h))) (hS : va_S A s.heap H locs) (hl : lv_has ls 9 [(0, .ref b), (1, .ref (O 0)), (2, .ref m0), (3, .ref o), (4, .int (nI (3 * t)))]) : W p l e room_1 s m args below meth cd H locs cells slots Q (F0 m 1475 ls []) := by
  obtain ⟨hx, hb, hml, hown, hts⟩ := id X
  have hO : OK (B 0) := hI.2.2.2.1.1
  have hz6 := hI.1.1
  have hn60 := hI.1.2.1
  have hf := hI.1.2.2
  have hV0 : V 0 = B 0 := hI.2.1
  have hOV : OK (V 0) := by rw [hV0]; exact hO
  obtain ⟨x, ex⟩ : ∃ x9, xs (3 * t + 1) = x9 := ⟨_, rfl⟩
  obtain ⟨y, ey⟩ : ∃ x9, xs (3 * t + 2) = x9 := ⟨_, rfl⟩
  refine lv_aload_n hx hb dL_law_1475 rfl (lv_at hl 1 rfl) ?_
  refine lv_aload_n hx hb dL_law_1476 rfl (lv_at hl 0 rfl) ?_
  refine lv_iload hx hb dL_law_1477 (lv_at hl 4 rfl) ?_
  refine lv_iconst (v := 1) hx hb dL_law_1479 (by decide) ?_
  refine lv_iadd hx hb dL_law_1480 ?_
  refine lv_eqi (y := nI (3 * t + 1)) (nI_add _ _) ?_
  refine va_sld hx hb hX hbl hbA hS (vp_in_nI (n := 3 * t + 1) (N := Lx) (by omega) (by omega)) dL_law_1481 ?_
  refine lv_eqi (y := x) (by rw [nI_clamp (by omega)]; exact ex) ?_
  refine lv_aload_n hx hb dL_law_1482 rfl (lv_at hl 0 rfl) ?_
  refine lv_iload hx hb dL_law_1483 (lv_at hl 4 rfl) ?_
  refine lv_iconst (v := 2) hx hb dL_law_1485 (by decide) ?_
  refine lv_iadd hx hb dL_law_1486 ?_
  refine lv_eqi (y := nI (3 * t + 2)) (nI_add _ _) ?_
  refine va_sld hx hb hX hbl hbA hS (vp_in_nI (n := 3 * t + 2) (N := Lx) (by omega) (by omega)) dL_law_1487 ?_
  refine lv_eqi (y := y) (by rw [nI_clamp (by omega)]; exact ey) ?_
  refine lv_aload_n hx hb dL_law_1488 rfl (lv_at hl 3 rfl) ?_
  refine kcallHJ (U := (Int32) × (Nat → Nat → Int32) × (Int64)) (As := [.ref (O 0), .int x, .int y, .ref o]) (rest := []) (Wr := [mdO m0 m1 m2 m3 th (nI z) w0 (nI n) ca lt fi sd hs, arC cI m1 1170 (enc B), arC cI m2 60 T, arC cI m3 8 h]) (Wc := [arJ cJ o ww, clP cI cZ cS O k g a d w0 c f z V T n K G L v]) (Wo := fun u => [arJ cJ o u.2.2, clP cI cZ cS O k g a d w0 c f z V T n u.2.1 G L v]) X hZ (h_ifDropped l D cI cZ cS cJ hl9 O k g a d w0 c f z V T n K G L v o ww x y hOV) (vx_cwSW 4 hts gL_law_L_ifDropped rfl rfl rfl (by decide +kernel) ⟨Nat.le_of_ble_eq_true rfl, Nat.le_of_ble_eq_true rfl⟩) hK hP hD hS hA rfl hl.1 rfl (Nat.le_of_ble_eq_true rfl) dL_law_1489 ⟨by omega, by omega⟩ (fun uu H locs hq0 hP hD hS => ?_)
  obtain ⟨k9, K9, w9⟩ := uu
  have hP : va_P D vwCl (List.flatten [mdO m0 m1 m2 m3 th (nI z) w0 (nI n) ca lt fi sd hs, arC cI m1 1170 (enc B), arC cI m2 60 T, arC cI m3 8 h, arJ cJ o w9, clP cI cZ cS O k g a d w0 c f z V T n K9 G L v]) _ := hP
  have hD : va_D A (List.flatten [mdO m0 m1 m2 m3 th (nI z) w0 (nI n) ca lt fi sd hs, arC cI m1 1170 (enc B), arC cI m2 60 T, arC cI m3 8 h, arJ cJ o w9, clP cI cZ cS O k g a d w0 c f z V T n K9 G L v]) := hD
  rw [hV0] at hq0
  refine lv_istore (lv' := [(5, .int k9), (0, .ref b), (1, .ref (O 0)), (2, .ref m0), (3, .ref o), (4, .int (nI (3 * t)))]) hx hb dL_law_1492 hl (by decide) rfl (fun ls hl => ?_)
  refine lv_aload_n hx hb dL_law_1494 rfl (lv_at hl 3 rfl) ?_
  refine lv_aload_n hx hb dL_law_1495 rfl (lv_at hl 1 rfl) ?_
  refine lv_iload hx hb dL_law_1496 (lv_at hl 5 rfl) ?_
  refine lv_iconst (v := 1) hx hb dL_law_1498 (by decide) ?_
  refine lv_iadd hx hb dL_law_1499 ?_
  refine lv_eqi (y := nI (3 * t + 1)) (nI_add _ _) ?_
  refine va_sld hx hb hX hbl hbA hS (vp_in_nI (n := 3 * t + 1) (N := Lx) (by omega) (by omega)) dL_law_1500 ?_
  refine lv_eqi (y := x) (by rw [nI_clamp (by omega)]; exact ex) ?_
  refine lv_aload_n hx hb dL_law_1501 rfl (lv_at hl 1 rfl) ?_
  refine lv_iload hx hb dL_law_1502 (lv_at hl 5 rfl) ?_
  refine lv_iconst (v := 2) hx hb dL_law_1504 (by decide) ?_
  refine lv_iadd hx hb dL_law_1505 ?_
  refine lv_eqi (y := nI (3 * t + 2)) (nI_add _ _) ?_
  refine va_sld hx hb hX hbl hbA hS (vp_in_nI (n := 3 * t + 2) (N := Lx) (by omega) (by omega)) dL_law_1506 ?_
  refine lv_eqi (y := y) (by rw [nI_clamp (by omega)]; exact ey) ?_
  refine kcallVE (As := [.int x, .int y]) (rest := []) (Wn := fun u => [mdO m0 m1 m2 m3 u.1 (nI z) w0 (nI n) ca lt fi sd hs, arC cI m1 1170 (enc u.2.1), arC cI m2 60 T, arC cI m3 8 u.2.2.1, arJ cJ o w9, clP cI cZ cS O k g a d w0 c f z V T n K9 G L v]) X (c_X7_ifDropped l D cI cZ cS cJ m0 m1 m2 m3 th (nI z) w0 (nI n) ca lt fi sd hs B T h x y hO.1 hO.2.1) (cwV 2 hts gL_law_X7_ifDropped rfl rfl rfl (by decide +kernel) ⟨Nat.le_of_ble_eq_true rfl, Nat.le_of_ble_eq_true rfl⟩) hK hP hD hS hA [0, 1, 2, 3] rfl (by decide +kernel) (fun _ => rfl) (fun _ => rfl) (fun _ => rfl) 0 7 rfl rfl rfl hl.1 rfl (Nat.le_of_ble_eq_true rfl) dL_law_1507 ⟨by omega, by omega⟩ (fun uu H locs hu hP hD hS => ?_)
  obtain ⟨th9_1, B9_1, h9_1, r9_1⟩ := uu
  obtain ⟨hlk_1, h8_1⟩ := hu
  have hP : va_P D vwCl (List.flatten [mdO m0 m1 m2 m3 th9_1 (nI z) w0 (nI n) ca lt fi sd hs, arC cI m1 1170 (enc B9_1), arC cI m2 60 T, arC cI m3 8 h9_1, arJ cJ o w9, clP cI cZ cS O k g a d w0 c f z V T n K9 G L v]) _ := hP
  have hD : va_D A (List.flatten [mdO m0 m1 m2 m3 th9_1 (nI z) w0 (nI n) ca lt fi sd hs, arC cI m1 1170 (enc B9_1), arC cI m2 60 T, arC cI m3 8 h9_1, arJ cJ o w9, clP cI cZ cS O k g a d w0 c f z V T n K9 G L v]) := hD
  obtain ⟨hth, hw⟩ := lk_step hq0 hlk_1
  have hIV := IV_up (IV_B hI h8_1)
  have hP : va_P D vwCl (List.flatten [mdO m0 m1 m2 m3 th9_1 (nI z) w0 (nI n) ca lt fi sd hs, arC cI m1 1170 (enc B9_1), arC cI m2 60 T, arC cI m3 8 h9_1, arJ cJ o w9, clP cI cZ cS O k g a d w0 c f z V T n K9 G L v]) _ := hP
  have hD : va_D A (List.flatten [mdO m0 m1 m2 m3 th9_1 (nI z) w0 (nI n) ca lt fi sd hs, arC cI m1 1170 (enc B9_1), arC cI m2 60 T, arC cI m3 8 h9_1, arJ cJ o w9, clP cI cZ cS O k g a d w0 c f z V T n K9 G L v]) := hD
  refine lv_istore (lv' := [(6, .int r9_1), (5, .int k9), (0, .ref b), (1, .ref (O 0)), (2, .ref m0), (3, .ref o), (4, .int (nI (3 * t)))]) hx hb dL_law_1510 hl (by decide) rfl (fun ls hl => ?_)
  refine lv_aload_n hx hb dL_law_1512 rfl (lv_at hl 4 rfl) ?_
  refine kcallV (As := []) (rest := []) (Wn := [mdO m0 m1 m2 m3 th9_1 (nI z) w0 (nI n) ca lt fi sd hs, arC cI m1 1170 (enc B9_1), arC cI m2 60 T, arC cI m3 8 h9_1, arJ cJ o w9, clP cI cZ cS O k g a d w0 c f z V T n K9 G L v]) X (c_X7_thrown l D cI cZ cS cJ m0 m1 m2 m3 th9_1 (nI z) w0 (nI n) ca lt fi sd hs B9_1 T h9_1) (cwV 0 hts gL_law_X7_thrown rfl rfl rfl (by decide +kernel) ⟨Nat.le_of_ble_eq_true rfl, Nat.le_of_ble_eq_true rfl⟩) hK hP hD hS hA [0, 1, 2, 3] rfl (by decide +kernel) rfl rfl rfl 0 7 rfl rfl rfl hl.1 rfl (Nat.le_of_ble_eq_true rfl) dL_law_1513 ⟨by omega, by omega⟩ (fun H locs hP hD hS => ?_)
  refine lv_iload hx hb dL_law_1516 (lv_at hl 1 rfl) ?_
  refine lv_icmp_eq (tgt := 1523) hx hb dL_law_1518 (by decide) (fun _ => ?_) (fun h => absurd hth h)
  refine lv_iload hx hb dL_law_1523 (lv_at hl 1 rfl) ?_
  refine lv_if_ne (tgt := 1540) hx hb dL_law_1525 (by decide) (fun q9c => ?_) (fun q9c => ?_)
  · skip
    refine lv_goto (tgt := 1723) hx hb dL_law_1540 (by decide) ?_
    refine W.widen (k := cells + 1) (n := slots + 6) (by omega) (by omega) ?_
    exact hk w0 c f z V T n K9 G L v w9 th9_1 ca lt fi sd hs B9_1 h9_1 hIV _ _ _ hP hD hS (lv_sub hl [2, 3, 4, 5, 6] rfl)
  · skip
    refine lv_aload_n hx hb dL_law_1528 rfl (lv_at hl 5 rfl) ?_
    refine lv_iconst (v := 0) hx hb dL_law_1529 (by decide) ?_
    refine va_lald hx hb hK hP 4 3 rfl rfl (vp_in_nI (n := 0) (N := 1) (by omega) (by omega)) dL_law_1530 ?_
    refine lv_iload hx hb dL_law_1531 (lv_at hl 0 rfl) ?_
    refine lv_i2l (v := r9_1.toInt64) hx hb dL_law_1533 rfl ?_
    refine W.lcmp hx hb dL_law_1534 ?_
    refine lv_if_eq (tgt := 1540) hx hb dL_law_1535 (by decide) (fun _ => ?_) (fun h => absurd (by rw [show w9 = _ from hw q9c]; exact lg_same _) h)
    refine lv_goto (tgt := 1723) hx hb dL_law_1540 (by decide) ?_
    refine W.widen (k := cells + 1) (n := slots + 6) (by omega) (by omega) ?_
    exact hk w0 c f z V T n K9 G L v w9 th9_1 ca lt fi sd hs B9_1 h9_1 hIV _ _ _ hP hD hS (lv_sub hl [2, 3, 4, 5, 6] rfl)

set_option maxHeartbeats 4000000 in
set_option maxRecDepth 100000 in
theorem lw_landsIn {p : Program} {e : Env} {s : State} {m : MethodId} {args : Array Value} {below : List Frame} {meth : Method} {cd : Code} {Q : State → Prop} {A : Nat → Prop} (l : Launch) (D : va_G) (cI cZ cS cJ : ClassId) (hl9 : l.stackTraces = false) (X : CallFix p m cd cL_law 9 s args wsL_law RL) (hZ : ZX A s) (hK : va_K D vwCl (tyL cI cZ cS cJ) s) (hA : ∀ q, s.heap.size ≤ q → A q) {b Lx : Nat} {xs : Nat → Int32} (hX : va_X b Lx xs s s.heap) (hbl : b < s.heap.size) (hbA : ¬ A b) (o m0 m1 m2 m3 : Nat) (O k g a d : Nat → Nat) (w0 : Int32) (c : Nat → Nat → Nat) (f : Nat → Option Nat) (z : Nat) (V : Nat → Nat → Nat → Int32) (T : Nat → Int32) (n : Nat) (K G : Nat → Nat → Int32) (L : Nat → Int32) (v : Int32) (ww : Int64) (th ca lt fi sd : Int32) (hs : Int64) (B : Nat → Nat → Nat → Int32) (h : Nat → Int32) (t cells slots : Nat) (ht : t < 600) (hLx : 3 * t + 2 < Lx) (hLx2 : Lx ≤ 1536) (hcs : cells + 1 ≤ room_1.cells ∧ slots + 6 ≤ room_1.slots) (hI : IV t w0 n c f z V B) (hk : KT 1723 p l e s m args below meth cd Q A D cI cZ cS cJ b o m0 m1 m2 m3 O k g a d t (cells + 1) (slots + 6)) (H : Heap) (locs : List Loc) (ls : Array Slot) (hP : va_P D vwCl (List.flatten (LW cI cZ cS cJ o m0 m1 m2 m3 O k g a d w0 c f z V T n K G L v ww th ca lt fi sd hs B h)) H) (hD : va_D A (List.flatten (LW cI cZ cS cJ o m0 m1 m2 m3 O k g a d w0 c f z V T n K G L v ww th ca lt fi sd hs B h))) (hS : va_S A s.heap H locs) (hl : lv_has ls 9 [(0, .ref b), (1, .ref (O 0)), (2, .ref m0), (3, .ref o), (4, .int (nI (3 * t)))]) : W p l e room_1 s m args below meth cd H locs cells slots Q (F0 m 1543 ls []) := by
  obtain ⟨hx, hb, hml, hown, hts⟩ := id X
  have hO : OK (B 0) := hI.2.2.2.1.1
  have hz6 := hI.1.1
  have hn60 := hI.1.2.1
  have hf := hI.1.2.2
  have hV0 : V 0 = B 0 := hI.2.1
  have hOV : OK (V 0) := by rw [hV0]; exact hO
  obtain ⟨x, ex⟩ : ∃ x9, xs (3 * t + 1) = x9 := ⟨_, rfl⟩
  obtain ⟨Lq, hLq⟩ : ∃ x9, Lnd (V 0) 200 = x9 := ⟨_, rfl⟩
  refine lv_aload_n hx hb dL_law_1543 rfl (lv_at hl 1 rfl) ?_
  refine lv_aload_n hx hb dL_law_1544 rfl (lv_at hl 0 rfl) ?_
  refine lv_iload hx hb dL_law_1545 (lv_at hl 4 rfl) ?_
  refine lv_iconst (v := 1) hx hb dL_law_1547 (by decide) ?_
  refine lv_iadd hx hb dL_law_1548 ?_
  refine lv_eqi (y := nI (3 * t + 1)) (nI_add _ _) ?_
  refine va_sld hx hb hX hbl hbA hS (vp_in_nI (n := 3 * t + 1) (N := Lx) (by omega) (by omega)) dL_law_1549 ?_
  refine lv_eqi (y := x) (by rw [nI_clamp (by omega)]; exact ex) ?_
  refine lv_aload_n hx hb dL_law_1550 rfl (lv_at hl 3 rfl) ?_
  refine kcallHJ (U := (Int32) × (Nat → Nat → Int32) × (Nat → Int32) × (Int32) × (Int64)) (As := [.ref (O 0), .int x, .ref o]) (rest := []) (Wr := [mdO m0 m1 m2 m3 th (nI z) w0 (nI n) ca lt fi sd hs, arC cI m1 1170 (enc B), arC cI m2 60 T, arC cI m3 8 h]) (Wc := [arJ cJ o ww, clP cI cZ cS O k g a d w0 c f z V T n K G L v]) (Wo := fun u => [arJ cJ o u.2.2.2.2, clP cI cZ cS O k g a d w0 c f z V T n K u.2.1 u.2.2.1 u.2.2.2.1]) X hZ (h_landsIn l D cI cZ cS cJ hl9 O k g a d w0 c f z V T n K G L v o ww x Lq hOV hLq) (vx_cwSW 3 hts gL_law_L_landsIn rfl rfl rfl (by decide +kernel) ⟨Nat.le_of_ble_eq_true rfl, Nat.le_of_ble_eq_true rfl⟩) hK hP hD hS hA rfl hl.1 rfl (Nat.le_of_ble_eq_true rfl) dL_law_1551 ⟨by omega, by omega⟩ (fun uu H locs hq0 hP hD hS => ?_)
  obtain ⟨k9, G9, L9, v9, w9⟩ := uu
  have hP : va_P D vwCl (List.flatten [mdO m0 m1 m2 m3 th (nI z) w0 (nI n) ca lt fi sd hs, arC cI m1 1170 (enc B), arC cI m2 60 T, arC cI m3 8 h, arJ cJ o w9, clP cI cZ cS O k g a d w0 c f z V T n K G9 L9 v9]) _ := hP
  have hD : va_D A (List.flatten [mdO m0 m1 m2 m3 th (nI z) w0 (nI n) ca lt fi sd hs, arC cI m1 1170 (enc B), arC cI m2 60 T, arC cI m3 8 h, arJ cJ o w9, clP cI cZ cS O k g a d w0 c f z V T n K G9 L9 v9]) := hD
  refine lv_istore (lv' := [(5, .int k9), (0, .ref b), (1, .ref (O 0)), (2, .ref m0), (3, .ref o), (4, .int (nI (3 * t)))]) hx hb dL_law_1554 hl (by decide) rfl (fun ls hl => ?_)
  refine lv_aload_n hx hb dL_law_1556 rfl (lv_at hl 3 rfl) ?_
  refine lv_aload_n hx hb dL_law_1557 rfl (lv_at hl 1 rfl) ?_
  refine lv_iload hx hb dL_law_1558 (lv_at hl 5 rfl) ?_
  refine lv_iconst (v := 1) hx hb dL_law_1560 (by decide) ?_
  refine lv_iadd hx hb dL_law_1561 ?_
  refine lv_eqi (y := nI (3 * t + 1)) (nI_add _ _) ?_
  refine va_sld hx hb hX hbl hbA hS (vp_in_nI (n := 3 * t + 1) (N := Lx) (by omega) (by omega)) dL_law_1562 ?_
  refine lv_eqi (y := x) (by rw [nI_clamp (by omega)]; exact ex) ?_
  refine kcallVE (As := [.int x]) (rest := []) (Wn := fun u => [mdO m0 m1 m2 m3 u.1 (nI z) w0 (nI n) ca lt fi sd hs, arC cI m1 1170 (enc u.2.1), arC cI m2 60 T, arC cI m3 8 u.2.2.1, arJ cJ o w9, clP cI cZ cS O k g a d w0 c f z V T n K G9 L9 v9]) X (c_X7_landsIn l D cI cZ cS cJ m0 m1 m2 m3 th (nI z) w0 (nI n) ca lt fi sd hs B T h x hO.1 hO.2.1) (cwV 1 hts gL_law_X7_landsIn rfl rfl rfl (by decide +kernel) ⟨Nat.le_of_ble_eq_true rfl, Nat.le_of_ble_eq_true rfl⟩) hK hP hD hS hA [0, 1, 2, 3] rfl (by decide +kernel) (fun _ => rfl) (fun _ => rfl) (fun _ => rfl) 0 7 rfl rfl rfl hl.1 rfl (Nat.le_of_ble_eq_true rfl) dL_law_1563 ⟨by omega, by omega⟩ (fun uu H locs hu hP hD hS => ?_)
  obtain ⟨th9_1, B9_1, h9_1, r9_1⟩ := uu
  obtain ⟨hlk_1, h8_1⟩ := hu
  have hP : va_P D vwCl (List.flatten [mdO m0 m1 m2 m3 th9_1 (nI z) w0 (nI n) ca lt fi sd hs, arC cI m1 1170 (enc B9_1), arC cI m2 60 T, arC cI m3 8 h9_1, arJ cJ o w9, clP cI cZ cS O k g a d w0 c f z V T n K G9 L9 v9]) _ := hP
  have hD : va_D A (List.flatten [mdO m0 m1 m2 m3 th9_1 (nI z) w0 (nI n) ca lt fi sd hs, arC cI m1 1170 (enc B9_1), arC cI m2 60 T, arC cI m3 8 h9_1, arJ cJ o w9, clP cI cZ cS O k g a d w0 c f z V T n K G9 L9 v9]) := hD
  rw [← hV0, hLq] at hlk_1
  obtain ⟨hth, hw⟩ := lk_step hq0 hlk_1
  have hIV := IV_up (IV_B hI h8_1)
  have hP : va_P D vwCl (List.flatten [mdO m0 m1 m2 m3 th9_1 (nI z) w0 (nI n) ca lt fi sd hs, arC cI m1 1170 (enc B9_1), arC cI m2 60 T, arC cI m3 8 h9_1, arJ cJ o w9, clP cI cZ cS O k g a d w0 c f z V T n K G9 L9 v9]) _ := hP
  have hD : va_D A (List.flatten [mdO m0 m1 m2 m3 th9_1 (nI z) w0 (nI n) ca lt fi sd hs, arC cI m1 1170 (enc B9_1), arC cI m2 60 T, arC cI m3 8 h9_1, arJ cJ o w9, clP cI cZ cS O k g a d w0 c f z V T n K G9 L9 v9]) := hD
  refine lv_istore (lv' := [(6, .int r9_1), (5, .int k9), (0, .ref b), (1, .ref (O 0)), (2, .ref m0), (3, .ref o), (4, .int (nI (3 * t)))]) hx hb dL_law_1566 hl (by decide) rfl (fun ls hl => ?_)
  refine lv_aload_n hx hb dL_law_1568 rfl (lv_at hl 4 rfl) ?_
  refine kcallV (As := []) (rest := []) (Wn := [mdO m0 m1 m2 m3 th9_1 (nI z) w0 (nI n) ca lt fi sd hs, arC cI m1 1170 (enc B9_1), arC cI m2 60 T, arC cI m3 8 h9_1, arJ cJ o w9, clP cI cZ cS O k g a d w0 c f z V T n K G9 L9 v9]) X (c_X7_thrown l D cI cZ cS cJ m0 m1 m2 m3 th9_1 (nI z) w0 (nI n) ca lt fi sd hs B9_1 T h9_1) (cwV 0 hts gL_law_X7_thrown rfl rfl rfl (by decide +kernel) ⟨Nat.le_of_ble_eq_true rfl, Nat.le_of_ble_eq_true rfl⟩) hK hP hD hS hA [0, 1, 2, 3] rfl (by decide +kernel) rfl rfl rfl 0 7 rfl rfl rfl hl.1 rfl (Nat.le_of_ble_eq_true rfl) dL_law_1569 ⟨by omega, by omega⟩ (fun H locs hP hD hS => ?_)
  refine lv_iload hx hb dL_law_1572 (lv_at hl 1 rfl) ?_
  refine lv_icmp_eq (tgt := 1579) hx hb dL_law_1574 (by decide) (fun _ => ?_) (fun h => absurd hth h)
  refine lv_iload hx hb dL_law_1579 (lv_at hl 1 rfl) ?_
  refine lv_if_ne (tgt := 1596) hx hb dL_law_1581 (by decide) (fun q9c => ?_) (fun q9c => ?_)
  · skip
    refine lv_goto (tgt := 1723) hx hb dL_law_1596 (by decide) ?_
    refine W.widen (k := cells + 1) (n := slots + 6) (by omega) (by omega) ?_
    exact hk w0 c f z V T n K G9 L9 v9 w9 th9_1 ca lt fi sd hs B9_1 h9_1 hIV _ _ _ hP hD hS (lv_sub hl [2, 3, 4, 5, 6] rfl)
  · skip
    refine lv_aload_n hx hb dL_law_1584 rfl (lv_at hl 5 rfl) ?_
    refine lv_iconst (v := 0) hx hb dL_law_1585 (by decide) ?_
    refine va_lald hx hb hK hP 4 3 rfl rfl (vp_in_nI (n := 0) (N := 1) (by omega) (by omega)) dL_law_1586 ?_
    refine lv_iload hx hb dL_law_1587 (lv_at hl 0 rfl) ?_
    refine lv_i2l (v := r9_1.toInt64) hx hb dL_law_1589 rfl ?_
    refine W.lcmp hx hb dL_law_1590 ?_
    refine lv_if_eq (tgt := 1596) hx hb dL_law_1591 (by decide) (fun _ => ?_) (fun h => absurd (by rw [show w9 = _ from hw q9c]; exact lg_same _) h)
    refine lv_goto (tgt := 1723) hx hb dL_law_1596 (by decide) ?_
    refine W.widen (k := cells + 1) (n := slots + 6) (by omega) (by omega) ?_
    exact hk w0 c f z V T n K G9 L9 v9 w9 th9_1 ca lt fi sd hs B9_1 h9_1 hIV _ _ _ hP hD hS (lv_sub hl [2, 3, 4, 5, 6] rfl)

set_option maxHeartbeats 4000000 in
set_option maxRecDepth 100000 in
theorem lw_clearBuffer {p : Program} {e : Env} {s : State} {m : MethodId} {args : Array Value} {below : List Frame} {meth : Method} {cd : Code} {Q : State → Prop} {A : Nat → Prop} (l : Launch) (D : va_G) (cI cZ cS cJ : ClassId) (hl9 : l.stackTraces = false) (X : CallFix p m cd cL_law 9 s args wsL_law RL) (hZ : ZX A s) (hK : va_K D vwCl (tyL cI cZ cS cJ) s) (hA : ∀ q, s.heap.size ≤ q → A q) {b Lx : Nat} {xs : Nat → Int32} (hX : va_X b Lx xs s s.heap) (hbl : b < s.heap.size) (hbA : ¬ A b) (o m0 m1 m2 m3 : Nat) (O k g a d : Nat → Nat) (w0 : Int32) (c : Nat → Nat → Nat) (f : Nat → Option Nat) (z : Nat) (V : Nat → Nat → Nat → Int32) (T : Nat → Int32) (n : Nat) (K G : Nat → Nat → Int32) (L : Nat → Int32) (v : Int32) (ww : Int64) (th ca lt fi sd : Int32) (hs : Int64) (B : Nat → Nat → Nat → Int32) (h : Nat → Int32) (t cells slots : Nat) (ht : t < 600) (hLx : 3 * t + 2 < Lx) (hLx2 : Lx ≤ 1536) (hcs : cells + 1 ≤ room_1.cells ∧ slots + 6 ≤ room_1.slots) (hI : IV t w0 n c f z V B) (hk : KT 1723 p l e s m args below meth cd Q A D cI cZ cS cJ b o m0 m1 m2 m3 O k g a d t (cells + 1) (slots + 6)) (H : Heap) (locs : List Loc) (ls : Array Slot) (hP : va_P D vwCl (List.flatten (LW cI cZ cS cJ o m0 m1 m2 m3 O k g a d w0 c f z V T n K G L v ww th ca lt fi sd hs B h)) H) (hD : va_D A (List.flatten (LW cI cZ cS cJ o m0 m1 m2 m3 O k g a d w0 c f z V T n K G L v ww th ca lt fi sd hs B h))) (hS : va_S A s.heap H locs) (hl : lv_has ls 9 [(0, .ref b), (1, .ref (O 0)), (2, .ref m0), (3, .ref o), (4, .int (nI (3 * t)))]) : W p l e room_1 s m args below meth cd H locs cells slots Q (F0 m 920 ls []) := by
  obtain ⟨hx, hb, hml, hown, hts⟩ := id X
  have hO : OK (B 0) := hI.2.2.2.1.1
  have hz6 := hI.1.1
  have hn60 := hI.1.2.1
  have hf := hI.1.2.2
  have hV0 : V 0 = B 0 := hI.2.1
  have hOV : OK (V 0) := by rw [hV0]; exact hO
  refine lv_aload_n hx hb dL_law_920 rfl (lv_at hl 1 rfl) ?_
  refine kcallVJ (U := Unit) (As := []) (rest := []) (Wr := [mdO m0 m1 m2 m3 th (nI z) w0 (nI n) ca lt fi sd hs, arC cI m1 1170 (enc B), arC cI m2 60 T, arC cI m3 8 h, arJ cJ o ww]) (Wc := [clP cI cZ cS O k g a d w0 c f z V T n K G L v]) (Wo := fun u => [clP cI cZ cS O k g a d w0 c f z V T 0 K G L v]) X (k_clearBuffer l D cI cZ cS cJ O k g a d w0 c f z V T n K G L v  ) (cwV 0 hts gL_law_X6_clearBuffer rfl rfl rfl (by decide +kernel) ⟨Nat.le_of_ble_eq_true rfl, Nat.le_of_ble_eq_true rfl⟩) hK hP hD hS hA 0 6 rfl rfl rfl hl.1 rfl (Nat.le_of_ble_eq_true rfl) dL_law_921 ⟨by omega, by omega⟩ (fun uu H locs hu hP hD hS => ?_)
  have hP : va_P D vwCl (List.flatten [mdO m0 m1 m2 m3 th (nI z) w0 (nI n) ca lt fi sd hs, arC cI m1 1170 (enc B), arC cI m2 60 T, arC cI m3 8 h, arJ cJ o ww, clP cI cZ cS O k g a d w0 c f z V T 0 K G L v]) _ := hP
  have hD : va_D A (List.flatten [mdO m0 m1 m2 m3 th (nI z) w0 (nI n) ca lt fi sd hs, arC cI m1 1170 (enc B), arC cI m2 60 T, arC cI m3 8 h, arJ cJ o ww, clP cI cZ cS O k g a d w0 c f z V T 0 K G L v]) := hD
  refine lv_aload_n hx hb dL_law_924 rfl (lv_at hl 2 rfl) ?_
  refine kcallV (As := []) (rest := [.int (nI n)]) (Wn := [mdO m0 m1 m2 m3 0 (nI z) w0 0 ca lt fi sd hs, arC cI m1 1170 (enc B), arC cI m2 60 T, arC cI m3 8 h, arJ cJ o ww, clP cI cZ cS O k g a d w0 c f z V T 0 K G L v]) X (c_X7_clearBuffer l D cI cZ cS cJ m0 m1 m2 m3 th (nI z) w0 (nI n) ca lt fi sd hs B T h) (cwV 0 hts gL_law_X7_clearBuffer rfl rfl rfl (by decide +kernel) ⟨Nat.le_of_ble_eq_true rfl, Nat.le_of_ble_eq_true rfl⟩) hK hP hD hS hA [0, 1, 2, 3] rfl (by decide +kernel) rfl rfl rfl 0 7 rfl rfl rfl hl.1 rfl (Nat.le_of_ble_eq_true rfl) dL_law_925 ⟨by omega, by omega⟩ (fun H locs hP hD hS => ?_)
  refine lv_icmp_eq (tgt := 1723) hx hb dL_law_928 (by decide) (fun _ => ?_) (fun h => absurd rfl h)
  refine W.widen (k := cells + 1) (n := slots + 6) (by omega) (by omega) ?_
  exact hk w0 c f z V T 0 K G L v ww 0 ca lt fi sd hs B h (IV_n (IV_up hI) (by decide)) _ _ _ hP hD hS (lv_sub hl [0, 1, 2, 3, 4] rfl)

set_option maxHeartbeats 4000000 in
set_option maxRecDepth 100000 in
theorem lw_firstError {p : Program} {e : Env} {s : State} {m : MethodId} {args : Array Value} {below : List Frame} {meth : Method} {cd : Code} {Q : State → Prop} {A : Nat → Prop} (l : Launch) (D : va_G) (cI cZ cS cJ : ClassId) (hl9 : l.stackTraces = false) (X : CallFix p m cd cL_law 9 s args wsL_law RL) (hZ : ZX A s) (hK : va_K D vwCl (tyL cI cZ cS cJ) s) (hA : ∀ q, s.heap.size ≤ q → A q) {b Lx : Nat} {xs : Nat → Int32} (hX : va_X b Lx xs s s.heap) (hbl : b < s.heap.size) (hbA : ¬ A b) (o m0 m1 m2 m3 : Nat) (O k g a d : Nat → Nat) (w0 : Int32) (c : Nat → Nat → Nat) (f : Nat → Option Nat) (z : Nat) (V : Nat → Nat → Nat → Int32) (T : Nat → Int32) (n : Nat) (K G : Nat → Nat → Int32) (L : Nat → Int32) (v : Int32) (ww : Int64) (th ca lt fi sd : Int32) (hs : Int64) (B : Nat → Nat → Nat → Int32) (h : Nat → Int32) (t cells slots : Nat) (ht : t < 600) (hLx : 3 * t + 2 < Lx) (hLx2 : Lx ≤ 1536) (hcs : cells + 1 ≤ room_1.cells ∧ slots + 6 ≤ room_1.slots) (hI : IV t w0 n c f z V B) (hk : KT 1723 p l e s m args below meth cd Q A D cI cZ cS cJ b o m0 m1 m2 m3 O k g a d t (cells + 1) (slots + 6)) (H : Heap) (locs : List Loc) (ls : Array Slot) (hP : va_P D vwCl (List.flatten (LW cI cZ cS cJ o m0 m1 m2 m3 O k g a d w0 c f z V T n K G L v ww th ca lt fi sd hs B h)) H) (hD : va_D A (List.flatten (LW cI cZ cS cJ o m0 m1 m2 m3 O k g a d w0 c f z V T n K G L v ww th ca lt fi sd hs B h))) (hS : va_S A s.heap H locs) (hl : lv_has ls 9 [(0, .ref b), (1, .ref (O 0)), (2, .ref m0), (3, .ref o), (4, .int (nI (3 * t)))]) : W p l e room_1 s m args below meth cd H locs cells slots Q (F0 m 933 ls []) := by
  obtain ⟨hx, hb, hml, hown, hts⟩ := id X
  have hO : OK (B 0) := hI.2.2.2.1.1
  have hz6 := hI.1.1
  have hn60 := hI.1.2.1
  have hf := hI.1.2.2
  have hV0 : V 0 = B 0 := hI.2.1
  have hOV : OK (V 0) := by rw [hV0]; exact hO
  refine lv_aload_n hx hb dL_law_933 rfl (lv_at hl 1 rfl) ?_
  refine kcallVJ (U := Unit) (As := []) (rest := []) (Wr := [mdO m0 m1 m2 m3 th (nI z) w0 (nI n) ca lt fi sd hs, arC cI m1 1170 (enc B), arC cI m2 60 T, arC cI m3 8 h, arJ cJ o ww]) (Wc := [clP cI cZ cS O k g a d w0 c f z V T n K G L v]) (Wo := fun u => [clP cI cZ cS O k g a d w0 c f z V T n K G L v]) X (k_firstError l D cI cZ cS cJ O k g a d w0 c f z V T n K G L v  hn60) (cwV 0 hts gL_law_X6_firstError rfl rfl rfl (by decide +kernel) ⟨Nat.le_of_ble_eq_true rfl, Nat.le_of_ble_eq_true rfl⟩) hK hP hD hS hA 0 6 rfl rfl rfl hl.1 rfl (Nat.le_of_ble_eq_true rfl) dL_law_934 ⟨by omega, by omega⟩ (fun uu H locs hu hP hD hS => ?_)
  have hP : va_P D vwCl (List.flatten [mdO m0 m1 m2 m3 th (nI z) w0 (nI n) ca lt fi sd hs, arC cI m1 1170 (enc B), arC cI m2 60 T, arC cI m3 8 h, arJ cJ o ww, clP cI cZ cS O k g a d w0 c f z V T n K G L v]) _ := hP
  have hD : va_D A (List.flatten [mdO m0 m1 m2 m3 th (nI z) w0 (nI n) ca lt fi sd hs, arC cI m1 1170 (enc B), arC cI m2 60 T, arC cI m3 8 h, arJ cJ o ww, clP cI cZ cS O k g a d w0 c f z V T n K G L v]) := hD
  refine lv_aload_n hx hb dL_law_937 rfl (lv_at hl 2 rfl) ?_
  refine kcallVE (As := []) (rest := [.int (nI (epl T n))]) (Wn := fun u => [mdO m0 m1 m2 m3 0 (nI z) w0 (nI n) (nI (epl T n)) u.1 u.2.1 u.2.2 hs, arC cI m1 1170 (enc B), arC cI m2 60 T, arC cI m3 8 h, arJ cJ o ww, clP cI cZ cS O k g a d w0 c f z V T n K G L v]) X (c_X7_firstError l D cI cZ cS cJ m0 m1 m2 m3 th (nI z) w0 ca lt fi sd hs B T h n hn60) (cwV 0 hts gL_law_X7_firstError rfl rfl rfl (by decide +kernel) ⟨Nat.le_of_ble_eq_true rfl, Nat.le_of_ble_eq_true rfl⟩) hK hP hD hS hA [0, 1, 2, 3] rfl (by decide +kernel) (fun _ => rfl) (fun _ => rfl) (fun _ => rfl) 0 7 rfl rfl rfl hl.1 rfl (Nat.le_of_ble_eq_true rfl) dL_law_938 ⟨by omega, by omega⟩ (fun uu H locs hu hP hD hS => ?_)
  obtain ⟨lt9_1, fi9_1, sd9_1⟩ := uu
  have hP : va_P D vwCl (List.flatten [mdO m0 m1 m2 m3 0 (nI z) w0 (nI n) (nI (epl T n)) lt9_1 fi9_1 sd9_1 hs, arC cI m1 1170 (enc B), arC cI m2 60 T, arC cI m3 8 h, arJ cJ o ww, clP cI cZ cS O k g a d w0 c f z V T n K G L v]) _ := hP
  have hD : va_D A (List.flatten [mdO m0 m1 m2 m3 0 (nI z) w0 (nI n) (nI (epl T n)) lt9_1 fi9_1 sd9_1 hs, arC cI m1 1170 (enc B), arC cI m2 60 T, arC cI m3 8 h, arJ cJ o ww, clP cI cZ cS O k g a d w0 c f z V T n K G L v]) := hD
  refine lv_icmp_eq (tgt := 1723) hx hb dL_law_941 (by decide) (fun _ => ?_) (fun h => absurd rfl h)
  refine W.widen (k := cells + 1) (n := slots + 6) (by omega) (by omega) ?_
  exact hk w0 c f z V T n K G L v ww 0 (nI (epl T n)) lt9_1 fi9_1 sd9_1 hs B h (IV_up hI) _ _ _ hP hD hS (lv_sub hl [0, 1, 2, 3, 4] rfl)

set_option maxHeartbeats 4000000 in
set_option maxRecDepth 100000 in
theorem lw_keep {p : Program} {e : Env} {s : State} {m : MethodId} {args : Array Value} {below : List Frame} {meth : Method} {cd : Code} {Q : State → Prop} {A : Nat → Prop} (l : Launch) (D : va_G) (cI cZ cS cJ : ClassId) (hl9 : l.stackTraces = false) (X : CallFix p m cd cL_law 9 s args wsL_law RL) (hZ : ZX A s) (hK : va_K D vwCl (tyL cI cZ cS cJ) s) (hA : ∀ q, s.heap.size ≤ q → A q) {b Lx : Nat} {xs : Nat → Int32} (hX : va_X b Lx xs s s.heap) (hbl : b < s.heap.size) (hbA : ¬ A b) (o m0 m1 m2 m3 : Nat) (O k g a d : Nat → Nat) (w0 : Int32) (c : Nat → Nat → Nat) (f : Nat → Option Nat) (z : Nat) (V : Nat → Nat → Nat → Int32) (T : Nat → Int32) (n : Nat) (K G : Nat → Nat → Int32) (L : Nat → Int32) (v : Int32) (ww : Int64) (th ca lt fi sd : Int32) (hs : Int64) (B : Nat → Nat → Nat → Int32) (h : Nat → Int32) (t cells slots : Nat) (ht : t < 600) (hLx : 3 * t + 2 < Lx) (hLx2 : Lx ≤ 1536) (hcs : cells + 1 ≤ room_1.cells ∧ slots + 6 ≤ room_1.slots) (hI : IV t w0 n c f z V B) (hk : KT 1723 p l e s m args below meth cd Q A D cI cZ cS cJ b o m0 m1 m2 m3 O k g a d t (cells + 1) (slots + 6)) (H : Heap) (locs : List Loc) (ls : Array Slot) (hP : va_P D vwCl (List.flatten (LW cI cZ cS cJ o m0 m1 m2 m3 O k g a d w0 c f z V T n K G L v ww th ca lt fi sd hs B h)) H) (hD : va_D A (List.flatten (LW cI cZ cS cJ o m0 m1 m2 m3 O k g a d w0 c f z V T n K G L v ww th ca lt fi sd hs B h))) (hS : va_S A s.heap H locs) (hl : lv_has ls 9 [(0, .ref b), (1, .ref (O 0)), (2, .ref m0), (3, .ref o), (4, .int (nI (3 * t)))]) : W p l e room_1 s m args below meth cd H locs cells slots Q (F0 m 990 ls []) := by
  obtain ⟨hx, hb, hml, hown, hts⟩ := id X
  have hO : OK (B 0) := hI.2.2.2.1.1
  have hz6 := hI.1.1
  have hn60 := hI.1.2.1
  have hf := hI.1.2.2
  have hV0 : V 0 = B 0 := hI.2.1
  have hOV : OK (V 0) := by rw [hV0]; exact hO
  refine lv_aload_n hx hb dL_law_990 rfl (lv_at hl 1 rfl) ?_
  refine kcallVJ (U := Unit) (As := []) (rest := []) (Wr := [mdO m0 m1 m2 m3 th (nI z) w0 (nI n) ca lt fi sd hs, arC cI m1 1170 (enc B), arC cI m2 60 T, arC cI m3 8 h, arJ cJ o ww]) (Wc := [clP cI cZ cS O k g a d w0 c f z V T n K G L v]) (Wo := fun u => [clP cI cZ cS O k g a d 1 c f z (vkeep V) T n K G L v]) X (k_keep l D cI cZ cS cJ O k g a d w0 c f z V T n K G L v  hOV) (cwV 0 hts gL_law_X6_keep rfl rfl rfl (by decide +kernel) ⟨Nat.le_of_ble_eq_true rfl, Nat.le_of_ble_eq_true rfl⟩) hK hP hD hS hA 0 6 rfl rfl rfl hl.1 rfl (Nat.le_of_ble_eq_true rfl) dL_law_991 ⟨by omega, by omega⟩ (fun uu H locs hu hP hD hS => ?_)
  have hP : va_P D vwCl (List.flatten [mdO m0 m1 m2 m3 th (nI z) w0 (nI n) ca lt fi sd hs, arC cI m1 1170 (enc B), arC cI m2 60 T, arC cI m3 8 h, arJ cJ o ww, clP cI cZ cS O k g a d 1 c f z (vkeep V) T n K G L v]) _ := hP
  have hD : va_D A (List.flatten [mdO m0 m1 m2 m3 th (nI z) w0 (nI n) ca lt fi sd hs, arC cI m1 1170 (enc B), arC cI m2 60 T, arC cI m3 8 h, arJ cJ o ww, clP cI cZ cS O k g a d 1 c f z (vkeep V) T n K G L v]) := hD
  refine lv_eqi (y := B 0 12 0) (by rw [hV0]) ?_
  refine lv_aload_n hx hb dL_law_994 rfl (lv_at hl 2 rfl) ?_
  refine kcallV (As := []) (rest := [.int (B 0 12 0)]) (Wn := [mdO m0 m1 m2 m3 0 (nI z) 1 (nI n) ca lt fi sd hs, arC cI m1 1170 (enc (uA B 7 (B 0))), arC cI m2 60 T, arC cI m3 8 h, arJ cJ o ww, clP cI cZ cS O k g a d 1 c f z (vkeep V) T n K G L v]) X (c_X7_keep l D cI cZ cS cJ m0 m1 m2 m3 th (nI z) w0 (nI n) ca lt fi sd hs B T h) (cwV 0 hts gL_law_X7_keep rfl rfl rfl (by decide +kernel) ⟨Nat.le_of_ble_eq_true rfl, Nat.le_of_ble_eq_true rfl⟩) hK hP hD hS hA [0, 1, 2, 3] rfl (by decide +kernel) rfl rfl rfl 0 7 rfl rfl rfl hl.1 rfl (Nat.le_of_ble_eq_true rfl) dL_law_995 ⟨by omega, by omega⟩ (fun H locs hP hD hS => ?_)
  refine lv_icmp_eq (tgt := 1723) hx hb dL_law_998 (by decide) (fun _ => ?_) (fun h => absurd rfl h)
  refine W.widen (k := cells + 1) (n := slots + 6) (by omega) (by omega) ?_
  exact hk 1 c f z (vkeep V) T n K G L v ww 0 ca lt fi sd hs (uA B 7 (B 0)) h (IV_keep hI) _ _ _ hP hD hS (lv_sub hl [0, 1, 2, 3, 4] rfl)

set_option maxHeartbeats 4000000 in
set_option maxRecDepth 100000 in
theorem lw_snapsIn {p : Program} {e : Env} {s : State} {m : MethodId} {args : Array Value} {below : List Frame} {meth : Method} {cd : Code} {Q : State → Prop} {A : Nat → Prop} (l : Launch) (D : va_G) (cI cZ cS cJ : ClassId) (hl9 : l.stackTraces = false) (X : CallFix p m cd cL_law 9 s args wsL_law RL) (hZ : ZX A s) (hK : va_K D vwCl (tyL cI cZ cS cJ) s) (hA : ∀ q, s.heap.size ≤ q → A q) {b Lx : Nat} {xs : Nat → Int32} (hX : va_X b Lx xs s s.heap) (hbl : b < s.heap.size) (hbA : ¬ A b) (o m0 m1 m2 m3 : Nat) (O k g a d : Nat → Nat) (w0 : Int32) (c : Nat → Nat → Nat) (f : Nat → Option Nat) (z : Nat) (V : Nat → Nat → Nat → Int32) (T : Nat → Int32) (n : Nat) (K G : Nat → Nat → Int32) (L : Nat → Int32) (v : Int32) (ww : Int64) (th ca lt fi sd : Int32) (hs : Int64) (B : Nat → Nat → Nat → Int32) (h : Nat → Int32) (t cells slots : Nat) (ht : t < 600) (hLx : 3 * t + 2 < Lx) (hLx2 : Lx ≤ 1536) (hcs : cells + 1 ≤ room_1.cells ∧ slots + 6 ≤ room_1.slots) (hI : IV t w0 n c f z V B) (hk : KT 1723 p l e s m args below meth cd Q A D cI cZ cS cJ b o m0 m1 m2 m3 O k g a d t (cells + 1) (slots + 6)) (H : Heap) (locs : List Loc) (ls : Array Slot) (hP : va_P D vwCl (List.flatten (LW cI cZ cS cJ o m0 m1 m2 m3 O k g a d w0 c f z V T n K G L v ww th ca lt fi sd hs B h)) H) (hD : va_D A (List.flatten (LW cI cZ cS cJ o m0 m1 m2 m3 O k g a d w0 c f z V T n K G L v ww th ca lt fi sd hs B h))) (hS : va_S A s.heap H locs) (hl : lv_has ls 9 [(0, .ref b), (1, .ref (O 0)), (2, .ref m0), (3, .ref o), (4, .int (nI (3 * t)))]) : W p l e room_1 s m args below meth cd H locs cells slots Q (F0 m 1599 ls []) := by
  obtain ⟨hx, hb, hml, hown, hts⟩ := id X
  have hO : OK (B 0) := hI.2.2.2.1.1
  have hz6 := hI.1.1
  have hn60 := hI.1.2.1
  have hf := hI.1.2.2
  have hV0 : V 0 = B 0 := hI.2.1
  have hOV : OK (V 0) := by rw [hV0]; exact hO
  obtain ⟨vq, hvq⟩ : ∃ x9, Fst (V 0) 200 = x9 := ⟨_, rfl⟩
  refine lv_aload_n hx hb dL_law_1599 rfl (lv_at hl 1 rfl) ?_
  refine kcallVJ (U := (Nat → Nat → Int32) × (Nat → Int32) × (Int32)) (As := []) (rest := []) (Wr := [mdO m0 m1 m2 m3 th (nI z) w0 (nI n) ca lt fi sd hs, arC cI m1 1170 (enc B), arC cI m2 60 T, arC cI m3 8 h, arJ cJ o ww]) (Wc := [clP cI cZ cS O k g a d w0 c f z V T n K G L v]) (Wo := fun u => [clP cI cZ cS O k g a d w0 c f z V T n K u.1 u.2.1 u.2.2]) X (k_snapsIn l D cI cZ cS cJ O k g a d w0 c f z V T n K G L v vq hOV hvq) (cwV 0 hts gL_law_X6_snapsIn rfl rfl rfl (by decide +kernel) ⟨Nat.le_of_ble_eq_true rfl, Nat.le_of_ble_eq_true rfl⟩) hK hP hD hS hA 0 6 rfl rfl rfl hl.1 rfl (Nat.le_of_ble_eq_true rfl) dL_law_1600 ⟨by omega, by omega⟩ (fun uu H locs hu hP hD hS => ?_)
  obtain ⟨G9, L9, v9⟩ := uu
  have hP : va_P D vwCl (List.flatten [mdO m0 m1 m2 m3 th (nI z) w0 (nI n) ca lt fi sd hs, arC cI m1 1170 (enc B), arC cI m2 60 T, arC cI m3 8 h, arJ cJ o ww, clP cI cZ cS O k g a d w0 c f z V T n K G9 L9 v9]) _ := hP
  have hD : va_D A (List.flatten [mdO m0 m1 m2 m3 th (nI z) w0 (nI n) ca lt fi sd hs, arC cI m1 1170 (enc B), arC cI m2 60 T, arC cI m3 8 h, arJ cJ o ww, clP cI cZ cS O k g a d w0 c f z V T n K G9 L9 v9]) := hD
  refine lv_aload_n hx hb dL_law_1603 rfl (lv_at hl 2 rfl) ?_
  refine kcallVE (As := []) (rest := [.int vq]) (Wn := fun u => [mdO m0 m1 m2 m3 0 (nI z) w0 (nI n) ca lt fi sd hs, arC cI m1 1170 (enc u.1), arC cI m2 60 T, arC cI m3 8 u.2, arJ cJ o ww, clP cI cZ cS O k g a d w0 c f z V T n K G9 L9 v9]) X (c_X7_snapsIn l D cI cZ cS cJ m0 m1 m2 m3 th (nI z) w0 (nI n) ca lt fi sd hs B T h hO.1 hO.2.1) (cwV 0 hts gL_law_X7_snapsIn rfl rfl rfl (by decide +kernel) ⟨Nat.le_of_ble_eq_true rfl, Nat.le_of_ble_eq_true rfl⟩) hK hP hD hS hA [0, 1, 2, 3] rfl (by decide +kernel) (fun _ => rfl) (fun _ => rfl) (fun _ => rfl) 0 7 rfl rfl rfl hl.1 rfl (Nat.le_of_ble_eq_true rfl) dL_law_1604 ⟨by omega, by omega⟩ (fun uu H locs hu hP hD hS => ?_)
  obtain ⟨B9_1, h9_1⟩ := uu
  have h8_1 := hu
  have hP : va_P D vwCl (List.flatten [mdO m0 m1 m2 m3 0 (nI z) w0 (nI n) ca lt fi sd hs, arC cI m1 1170 (enc B9_1), arC cI m2 60 T, arC cI m3 8 h9_1, arJ cJ o ww, clP cI cZ cS O k g a d w0 c f z V T n K G9 L9 v9]) _ := hP
  have hD : va_D A (List.flatten [mdO m0 m1 m2 m3 0 (nI z) w0 (nI n) ca lt fi sd hs, arC cI m1 1170 (enc B9_1), arC cI m2 60 T, arC cI m3 8 h9_1, arJ cJ o ww, clP cI cZ cS O k g a d w0 c f z V T n K G9 L9 v9]) := hD
  refine lv_eqi (y := vq) (by rw [← hV0]; exact hvq) ?_
  refine lv_icmp_eq (tgt := 1723) hx hb dL_law_1607 (by decide) (fun _ => ?_) (fun h => absurd rfl h)
  refine W.widen (k := cells + 1) (n := slots + 6) (by omega) (by omega) ?_
  exact hk w0 c f z V T n K G9 L9 v9 ww 0 ca lt fi sd hs B9_1 h9_1 (IV_up (IV_B hI h8_1)) _ _ _ hP hD hS (lv_sub hl [0, 1, 2, 3, 4] rfl)

set_option maxHeartbeats 4000000 in
set_option maxRecDepth 100000 in
theorem lw_bestBag {p : Program} {e : Env} {s : State} {m : MethodId} {args : Array Value} {below : List Frame} {meth : Method} {cd : Code} {Q : State → Prop} {A : Nat → Prop} (l : Launch) (D : va_G) (cI cZ cS cJ : ClassId) (hl9 : l.stackTraces = false) (X : CallFix p m cd cL_law 9 s args wsL_law RL) (hZ : ZX A s) (hK : va_K D vwCl (tyL cI cZ cS cJ) s) (hA : ∀ q, s.heap.size ≤ q → A q) {b Lx : Nat} {xs : Nat → Int32} (hX : va_X b Lx xs s s.heap) (hbl : b < s.heap.size) (hbA : ¬ A b) (o m0 m1 m2 m3 : Nat) (O k g a d : Nat → Nat) (w0 : Int32) (c : Nat → Nat → Nat) (f : Nat → Option Nat) (z : Nat) (V : Nat → Nat → Nat → Int32) (T : Nat → Int32) (n : Nat) (K G : Nat → Nat → Int32) (L : Nat → Int32) (v : Int32) (ww : Int64) (th ca lt fi sd : Int32) (hs : Int64) (B : Nat → Nat → Nat → Int32) (h : Nat → Int32) (t cells slots : Nat) (ht : t < 600) (hLx : 3 * t + 2 < Lx) (hLx2 : Lx ≤ 1536) (hcs : cells + 1 ≤ room_1.cells ∧ slots + 6 ≤ room_1.slots) (hI : IV t w0 n c f z V B) (hk : KT 1723 p l e s m args below meth cd Q A D cI cZ cS cJ b o m0 m1 m2 m3 O k g a d t (cells + 1) (slots + 6)) (H : Heap) (locs : List Loc) (ls : Array Slot) (hP : va_P D vwCl (List.flatten (LW cI cZ cS cJ o m0 m1 m2 m3 O k g a d w0 c f z V T n K G L v ww th ca lt fi sd hs B h)) H) (hD : va_D A (List.flatten (LW cI cZ cS cJ o m0 m1 m2 m3 O k g a d w0 c f z V T n K G L v ww th ca lt fi sd hs B h))) (hS : va_S A s.heap H locs) (hl : lv_has ls 9 [(0, .ref b), (1, .ref (O 0)), (2, .ref m0), (3, .ref o), (4, .int (nI (3 * t)))]) : W p l e room_1 s m args below meth cd H locs cells slots Q (F0 m 1612 ls []) := by
  obtain ⟨hx, hb, hml, hown, hts⟩ := id X
  have hO : OK (B 0) := hI.2.2.2.1.1
  have hz6 := hI.1.1
  have hn60 := hI.1.2.1
  have hf := hI.1.2.2
  have hV0 : V 0 = B 0 := hI.2.1
  have hOV : OK (V 0) := by rw [hV0]; exact hO
  refine lv_aload_n hx hb dL_law_1612 rfl (lv_at hl 1 rfl) ?_
  refine kcallVJ (U := Unit) (As := []) (rest := []) (Wr := [mdO m0 m1 m2 m3 th (nI z) w0 (nI n) ca lt fi sd hs, arC cI m1 1170 (enc B), arC cI m2 60 T, arC cI m3 8 h, arJ cJ o ww]) (Wc := [clP cI cZ cS O k g a d w0 c f z V T n K G L v]) (Wo := fun u => [clP cI cZ cS O k g a d w0 c f z V T n (drI (V 0) K 8) G L v]) X (k_bestBag l D cI cZ cS cJ O k g a d w0 c f z V T n K G L v  hOV) (cwV 0 hts gL_law_X6_bestBag rfl rfl rfl (by decide +kernel) ⟨Nat.le_of_ble_eq_true rfl, Nat.le_of_ble_eq_true rfl⟩) hK hP hD hS hA 0 6 rfl rfl rfl hl.1 rfl (Nat.le_of_ble_eq_true rfl) dL_law_1613 ⟨by omega, by omega⟩ (fun uu H locs hu hP hD hS => ?_)
  have hP : va_P D vwCl (List.flatten [mdO m0 m1 m2 m3 th (nI z) w0 (nI n) ca lt fi sd hs, arC cI m1 1170 (enc B), arC cI m2 60 T, arC cI m3 8 h, arJ cJ o ww, clP cI cZ cS O k g a d w0 c f z V T n (drI (V 0) K 8) G L v]) _ := hP
  have hD : va_D A (List.flatten [mdO m0 m1 m2 m3 th (nI z) w0 (nI n) ca lt fi sd hs, arC cI m1 1170 (enc B), arC cI m2 60 T, arC cI m3 8 h, arJ cJ o ww, clP cI cZ cS O k g a d w0 c f z V T n (drI (V 0) K 8) G L v]) := hD
  refine lv_eqi (y := (bb (B 0) 8).1) (by rw [hV0]) ?_
  refine lv_aload_n hx hb dL_law_1616 rfl (lv_at hl 2 rfl) ?_
  refine kcallVE (As := []) (rest := [.int ((bb (B 0) 8).1)]) (Wn := fun u => [mdO m0 m1 m2 m3 0 (nI z) w0 (nI n) ca lt fi sd hs, arC cI m1 1170 (enc u.1), arC cI m2 60 T, arC cI m3 8 u.2, arJ cJ o ww, clP cI cZ cS O k g a d w0 c f z V T n (drI (V 0) K 8) G L v]) X (c_X7_bestBag l D cI cZ cS cJ m0 m1 m2 m3 th (nI z) w0 (nI n) ca lt fi sd hs B T h hO.1 hO.2.1) (cwV 0 hts gL_law_X7_bestBag rfl rfl rfl (by decide +kernel) ⟨Nat.le_of_ble_eq_true rfl, Nat.le_of_ble_eq_true rfl⟩) hK hP hD hS hA [0, 1, 2, 3] rfl (by decide +kernel) (fun _ => rfl) (fun _ => rfl) (fun _ => rfl) 0 7 rfl rfl rfl hl.1 rfl (Nat.le_of_ble_eq_true rfl) dL_law_1617 ⟨by omega, by omega⟩ (fun uu H locs hu hP hD hS => ?_)
  obtain ⟨B9_1, h9_1⟩ := uu
  have h8_1 := hu
  have hP : va_P D vwCl (List.flatten [mdO m0 m1 m2 m3 0 (nI z) w0 (nI n) ca lt fi sd hs, arC cI m1 1170 (enc B9_1), arC cI m2 60 T, arC cI m3 8 h9_1, arJ cJ o ww, clP cI cZ cS O k g a d w0 c f z V T n (drI (V 0) K 8) G L v]) _ := hP
  have hD : va_D A (List.flatten [mdO m0 m1 m2 m3 0 (nI z) w0 (nI n) ca lt fi sd hs, arC cI m1 1170 (enc B9_1), arC cI m2 60 T, arC cI m3 8 h9_1, arJ cJ o ww, clP cI cZ cS O k g a d w0 c f z V T n (drI (V 0) K 8) G L v]) := hD
  refine lv_icmp_eq (tgt := 1723) hx hb dL_law_1620 (by decide) (fun _ => ?_) (fun h => absurd rfl h)
  refine W.widen (k := cells + 1) (n := slots + 6) (by omega) (by omega) ?_
  exact hk w0 c f z V T n (drI (V 0) K 8) G L v ww 0 ca lt fi sd hs B9_1 h9_1 (IV_up (IV_B hI h8_1)) _ _ _ hP hD hS (lv_sub hl [0, 1, 2, 3, 4] rfl)

set_option maxHeartbeats 4000000 in
set_option maxRecDepth 100000 in
theorem lw_meanHeight {p : Program} {e : Env} {s : State} {m : MethodId} {args : Array Value} {below : List Frame} {meth : Method} {cd : Code} {Q : State → Prop} {A : Nat → Prop} (l : Launch) (D : va_G) (cI cZ cS cJ : ClassId) (hl9 : l.stackTraces = false) (X : CallFix p m cd cL_law 9 s args wsL_law RL) (hZ : ZX A s) (hK : va_K D vwCl (tyL cI cZ cS cJ) s) (hA : ∀ q, s.heap.size ≤ q → A q) {b Lx : Nat} {xs : Nat → Int32} (hX : va_X b Lx xs s s.heap) (hbl : b < s.heap.size) (hbA : ¬ A b) (o m0 m1 m2 m3 : Nat) (O k g a d : Nat → Nat) (w0 : Int32) (c : Nat → Nat → Nat) (f : Nat → Option Nat) (z : Nat) (V : Nat → Nat → Nat → Int32) (T : Nat → Int32) (n : Nat) (K G : Nat → Nat → Int32) (L : Nat → Int32) (v : Int32) (ww : Int64) (th ca lt fi sd : Int32) (hs : Int64) (B : Nat → Nat → Nat → Int32) (h : Nat → Int32) (t cells slots : Nat) (ht : t < 600) (hLx : 3 * t + 2 < Lx) (hLx2 : Lx ≤ 1536) (hcs : cells + 1 ≤ room_1.cells ∧ slots + 6 ≤ room_1.slots) (hI : IV t w0 n c f z V B) (hk : KT 1723 p l e s m args below meth cd Q A D cI cZ cS cJ b o m0 m1 m2 m3 O k g a d t (cells + 1) (slots + 6)) (H : Heap) (locs : List Loc) (ls : Array Slot) (hP : va_P D vwCl (List.flatten (LW cI cZ cS cJ o m0 m1 m2 m3 O k g a d w0 c f z V T n K G L v ww th ca lt fi sd hs B h)) H) (hD : va_D A (List.flatten (LW cI cZ cS cJ o m0 m1 m2 m3 O k g a d w0 c f z V T n K G L v ww th ca lt fi sd hs B h))) (hS : va_S A s.heap H locs) (hl : lv_has ls 9 [(0, .ref b), (1, .ref (O 0)), (2, .ref m0), (3, .ref o), (4, .int (nI (3 * t)))]) : W p l e room_1 s m args below meth cd H locs cells slots Q (F0 m 1625 ls []) := by
  obtain ⟨hx, hb, hml, hown, hts⟩ := id X
  have hO : OK (B 0) := hI.2.2.2.1.1
  have hz6 := hI.1.1
  have hn60 := hI.1.2.1
  have hf := hI.1.2.2
  have hV0 : V 0 = B 0 := hI.2.1
  have hOV : OK (V 0) := by rw [hV0]; exact hO
  refine lv_aload_n hx hb dL_law_1625 rfl (lv_at hl 1 rfl) ?_
  refine kcallVJ (U := Unit) (As := []) (rest := []) (Wr := [mdO m0 m1 m2 m3 th (nI z) w0 (nI n) ca lt fi sd hs, arC cI m1 1170 (enc B), arC cI m2 60 T, arC cI m3 8 h, arJ cJ o ww]) (Wc := [clP cI cZ cS O k g a d w0 c f z V T n K G L v]) (Wo := fun u => [clP cI cZ cS O k g a d w0 c f z V T n K G L v]) X (k_meanHeight l D cI cZ cS cJ O k g a d w0 c f z V T n K G L v  hOV) (cwV 0 hts gL_law_X6_meanHeight rfl rfl rfl (by decide +kernel) ⟨Nat.le_of_ble_eq_true rfl, Nat.le_of_ble_eq_true rfl⟩) hK hP hD hS hA 0 6 rfl rfl rfl hl.1 rfl (Nat.le_of_ble_eq_true rfl) dL_law_1626 ⟨by omega, by omega⟩ (fun uu H locs hu hP hD hS => ?_)
  have hP : va_P D vwCl (List.flatten [mdO m0 m1 m2 m3 th (nI z) w0 (nI n) ca lt fi sd hs, arC cI m1 1170 (enc B), arC cI m2 60 T, arC cI m3 8 h, arJ cJ o ww, clP cI cZ cS O k g a d w0 c f z V T n K G L v]) _ := hP
  have hD : va_D A (List.flatten [mdO m0 m1 m2 m3 th (nI z) w0 (nI n) ca lt fi sd hs, arC cI m1 1170 (enc B), arC cI m2 60 T, arC cI m3 8 h, arJ cJ o ww, clP cI cZ cS O k g a d w0 c f z V T n K G L v]) := hD
  rw [hV0]
  refine lv_dstore (lv' := [(5, .double (mnD (hsm (B 0)))), (0, .ref b), (1, .ref (O 0)), (2, .ref m0), (3, .ref o), (4, .int (nI (3 * t)))]) hx hb dL_law_1629 hl (by decide) rfl (fun ls hl => ?_)
  refine lv_aload_n hx hb dL_law_1631 rfl (lv_at hl 3 rfl) ?_
  refine kcallVE (As := []) (rest := []) (Wn := fun u => [mdO m0 m1 m2 m3 0 (nI z) w0 (nI n) ca lt fi sd hs, arC cI m1 1170 (enc B), arC cI m2 60 T, arC cI m3 8 u, arJ cJ o ww, clP cI cZ cS O k g a d w0 c f z V T n K G L v]) X (c_X7_meanHeight l D cI cZ cS cJ m0 m1 m2 m3 th (nI z) w0 (nI n) ca lt fi sd hs B T h hO.1) (cwV 0 hts gL_law_X7_meanHeight rfl rfl rfl (by decide +kernel) ⟨Nat.le_of_ble_eq_true rfl, Nat.le_of_ble_eq_true rfl⟩) hK hP hD hS hA [0, 1, 2, 3] rfl (by decide +kernel) (fun _ => rfl) (fun _ => rfl) (fun _ => rfl) 0 7 rfl rfl rfl hl.1 rfl (Nat.le_of_ble_eq_true rfl) dL_law_1632 ⟨by omega, by omega⟩ (fun h9_1 H locs hu hP hD hS => ?_)
  have hP : va_P D vwCl (List.flatten [mdO m0 m1 m2 m3 0 (nI z) w0 (nI n) ca lt fi sd hs, arC cI m1 1170 (enc B), arC cI m2 60 T, arC cI m3 8 h9_1, arJ cJ o ww, clP cI cZ cS O k g a d w0 c f z V T n K G L v]) _ := hP
  have hD : va_D A (List.flatten [mdO m0 m1 m2 m3 0 (nI z) w0 (nI n) ca lt fi sd hs, arC cI m1 1170 (enc B), arC cI m2 60 T, arC cI m3 8 h9_1, arJ cJ o ww, clP cI cZ cS O k g a d w0 c f z V T n K G L v]) := hD
  refine lv_dstore (lv' := [(7, .double (mnD (hsm (B 0)))), (5, .double (mnD (hsm (B 0)))), (0, .ref b), (1, .ref (O 0)), (2, .ref m0), (3, .ref o), (4, .int (nI (3 * t)))]) hx hb dL_law_1635 hl (by decide) rfl (fun ls hl => ?_)
  refine lv_dload hx hb dL_law_1637 (lv_at hl 1 rfl) ?_
  refine lv_dload hx hb dL_law_1639 (lv_at hl 0 rfl) ?_
  refine lv_dcmp hx hb dL_law_1641 ?_
  refine lv_if_eq (tgt := 1663) hx hb dL_law_1642 (by decide) (fun q9c => ?_) (fun q9c => ?_)
  · skip
    refine lv_goto (tgt := 1723) hx hb dL_law_1663 (by decide) ?_
    refine W.widen (k := cells + 1) (n := slots + 6) (by omega) (by omega) ?_
    exact hk w0 c f z V T n K G L v ww 0 ca lt fi sd hs B h9_1 (IV_up hI) _ _ _ hP hD hS (lv_sub hl [2, 3, 4, 5, 6] rfl)
  · skip
    refine lv_dload hx hb dL_law_1645 (lv_at hl 1 rfl) ?_
    refine lv_dload hx hb dL_law_1647 (lv_at hl 1 rfl) ?_
    refine lv_dcmp hx hb dL_law_1649 ?_
    refine lv_if_eq (tgt := 1661) hx hb dL_law_1650 (by decide) (fun h => absurd h q9c) (fun _ => ?_)
    refine lv_dload hx hb dL_law_1653 (lv_at hl 0 rfl) ?_
    refine lv_dload hx hb dL_law_1655 (lv_at hl 0 rfl) ?_
    refine lv_dcmp hx hb dL_law_1657 ?_
    refine lv_if_ne (tgt := 1663) hx hb dL_law_1658 (by decide) (fun _ => ?_) (fun h => absurd h q9c)
    refine lv_goto (tgt := 1723) hx hb dL_law_1663 (by decide) ?_
    refine W.widen (k := cells + 1) (n := slots + 6) (by omega) (by omega) ?_
    exact hk w0 c f z V T n K G L v ww 0 ca lt fi sd hs B h9_1 (IV_up hI) _ _ _ hP hD hS (lv_sub hl [2, 3, 4, 5, 6] rfl)

set_option maxHeartbeats 4000000 in
set_option maxRecDepth 100000 in
theorem lw_lostShare {p : Program} {e : Env} {s : State} {m : MethodId} {args : Array Value} {below : List Frame} {meth : Method} {cd : Code} {Q : State → Prop} {A : Nat → Prop} (l : Launch) (D : va_G) (cI cZ cS cJ : ClassId) (hl9 : l.stackTraces = false) (X : CallFix p m cd cL_law 9 s args wsL_law RL) (hZ : ZX A s) (hK : va_K D vwCl (tyL cI cZ cS cJ) s) (hA : ∀ q, s.heap.size ≤ q → A q) {b Lx : Nat} {xs : Nat → Int32} (hX : va_X b Lx xs s s.heap) (hbl : b < s.heap.size) (hbA : ¬ A b) (o m0 m1 m2 m3 : Nat) (O k g a d : Nat → Nat) (w0 : Int32) (c : Nat → Nat → Nat) (f : Nat → Option Nat) (z : Nat) (V : Nat → Nat → Nat → Int32) (T : Nat → Int32) (n : Nat) (K G : Nat → Nat → Int32) (L : Nat → Int32) (v : Int32) (ww : Int64) (th ca lt fi sd : Int32) (hs : Int64) (B : Nat → Nat → Nat → Int32) (h : Nat → Int32) (t cells slots : Nat) (ht : t < 600) (hLx : 3 * t + 2 < Lx) (hLx2 : Lx ≤ 1536) (hcs : cells + 1 ≤ room_1.cells ∧ slots + 6 ≤ room_1.slots) (hI : IV t w0 n c f z V B) (hk : KT 1723 p l e s m args below meth cd Q A D cI cZ cS cJ b o m0 m1 m2 m3 O k g a d t (cells + 1) (slots + 6)) (H : Heap) (locs : List Loc) (ls : Array Slot) (hP : va_P D vwCl (List.flatten (LW cI cZ cS cJ o m0 m1 m2 m3 O k g a d w0 c f z V T n K G L v ww th ca lt fi sd hs B h)) H) (hD : va_D A (List.flatten (LW cI cZ cS cJ o m0 m1 m2 m3 O k g a d w0 c f z V T n K G L v ww th ca lt fi sd hs B h))) (hS : va_S A s.heap H locs) (hl : lv_has ls 9 [(0, .ref b), (1, .ref (O 0)), (2, .ref m0), (3, .ref o), (4, .int (nI (3 * t)))]) (hL : vf_n32 (lsF (B 0))) (hF2 : vf_n64 (FP.f2d (lsF (B 0)))) : W p l e room_1 s m args below meth cd H locs cells slots Q (F0 m 1666 ls []) := by
  obtain ⟨hx, hb, hml, hown, hts⟩ := id X
  have hO : OK (B 0) := hI.2.2.2.1.1
  have hz6 := hI.1.1
  have hn60 := hI.1.2.1
  have hf := hI.1.2.2
  have hV0 : V 0 = B 0 := hI.2.1
  have hOV : OK (V 0) := by rw [hV0]; exact hO
  refine lv_aload_n hx hb dL_law_1666 rfl (lv_at hl 1 rfl) ?_
  refine kcallVJ (U := Unit) (As := []) (rest := []) (Wr := [mdO m0 m1 m2 m3 th (nI z) w0 (nI n) ca lt fi sd hs, arC cI m1 1170 (enc B), arC cI m2 60 T, arC cI m3 8 h, arJ cJ o ww]) (Wc := [clP cI cZ cS O k g a d w0 c f z V T n K G L v]) (Wo := fun u => [clP cI cZ cS O k g a d w0 c f z V T n K G L v]) X (k_lostShare l D cI cZ cS cJ O k g a d w0 c f z V T n K G L v  (by rw [hV0]; exact hL)) (cwV 0 hts gL_law_X6_lostShare rfl rfl rfl (by decide +kernel) ⟨Nat.le_of_ble_eq_true rfl, Nat.le_of_ble_eq_true rfl⟩) hK hP hD hS hA 0 6 rfl rfl rfl hl.1 rfl (Nat.le_of_ble_eq_true rfl) dL_law_1667 ⟨by omega, by omega⟩ (fun uu H locs hu hP hD hS => ?_)
  have hP : va_P D vwCl (List.flatten [mdO m0 m1 m2 m3 th (nI z) w0 (nI n) ca lt fi sd hs, arC cI m1 1170 (enc B), arC cI m2 60 T, arC cI m3 8 h, arJ cJ o ww, clP cI cZ cS O k g a d w0 c f z V T n K G L v]) _ := hP
  have hD : va_D A (List.flatten [mdO m0 m1 m2 m3 th (nI z) w0 (nI n) ca lt fi sd hs, arC cI m1 1170 (enc B), arC cI m2 60 T, arC cI m3 8 h, arJ cJ o ww, clP cI cZ cS O k g a d w0 c f z V T n K G L v]) := hD
  rw [hV0]
  refine lv_f2d hx hb dL_law_1670 hF2 ?_
  refine lv_dstore (lv' := [(5, .double (FP.f2d (lsF (B 0)))), (0, .ref b), (1, .ref (O 0)), (2, .ref m0), (3, .ref o), (4, .int (nI (3 * t)))]) hx hb dL_law_1671 hl (by decide) rfl (fun ls hl => ?_)
  refine lv_aload_n hx hb dL_law_1673 rfl (lv_at hl 3 rfl) ?_
  refine kcallV (As := []) (rest := []) (Wn := [mdO m0 m1 m2 m3 0 (nI z) w0 (nI n) ca lt fi sd hs, arC cI m1 1170 (enc B), arC cI m2 60 T, arC cI m3 8 h, arJ cJ o ww, clP cI cZ cS O k g a d w0 c f z V T n K G L v]) X (c_X7_lostShare l D cI cZ cS cJ m0 m1 m2 m3 th (nI z) w0 (nI n) ca lt fi sd hs B T h hL) (cwV 0 hts gL_law_X7_lostShare rfl rfl rfl (by decide +kernel) ⟨Nat.le_of_ble_eq_true rfl, Nat.le_of_ble_eq_true rfl⟩) hK hP hD hS hA [0, 1, 2, 3] rfl (by decide +kernel) rfl rfl rfl 0 7 rfl rfl rfl hl.1 rfl (Nat.le_of_ble_eq_true rfl) dL_law_1674 ⟨by omega, by omega⟩ (fun H locs hP hD hS => ?_)
  refine lv_f2d hx hb dL_law_1677 hF2 ?_
  refine lv_dstore (lv' := [(7, .double (FP.f2d (lsF (B 0)))), (5, .double (FP.f2d (lsF (B 0)))), (0, .ref b), (1, .ref (O 0)), (2, .ref m0), (3, .ref o), (4, .int (nI (3 * t)))]) hx hb dL_law_1678 hl (by decide) rfl (fun ls hl => ?_)
  refine lv_dload hx hb dL_law_1680 (lv_at hl 1 rfl) ?_
  refine lv_dload hx hb dL_law_1682 (lv_at hl 0 rfl) ?_
  refine lv_dcmp hx hb dL_law_1684 ?_
  refine lv_if_eq (tgt := 1706) hx hb dL_law_1685 (by decide) (fun q9c => ?_) (fun q9c => ?_)
  · skip
    refine lv_goto (tgt := 1723) hx hb dL_law_1706 (by decide) ?_
    refine W.widen (k := cells + 1) (n := slots + 6) (by omega) (by omega) ?_
    exact hk w0 c f z V T n K G L v ww 0 ca lt fi sd hs B h (IV_up hI) _ _ _ hP hD hS (lv_sub hl [2, 3, 4, 5, 6] rfl)
  · skip
    refine lv_dload hx hb dL_law_1688 (lv_at hl 1 rfl) ?_
    refine lv_dload hx hb dL_law_1690 (lv_at hl 1 rfl) ?_
    refine lv_dcmp hx hb dL_law_1692 ?_
    refine lv_if_eq (tgt := 1704) hx hb dL_law_1693 (by decide) (fun h => absurd h q9c) (fun _ => ?_)
    refine lv_dload hx hb dL_law_1696 (lv_at hl 0 rfl) ?_
    refine lv_dload hx hb dL_law_1698 (lv_at hl 0 rfl) ?_
    refine lv_dcmp hx hb dL_law_1700 ?_
    refine lv_if_ne (tgt := 1706) hx hb dL_law_1701 (by decide) (fun _ => ?_) (fun h => absurd h q9c)
    refine lv_goto (tgt := 1723) hx hb dL_law_1706 (by decide) ?_
    refine W.widen (k := cells + 1) (n := slots + 6) (by omega) (by omega) ?_
    exact hk w0 c f z V T n K G L v ww 0 ca lt fi sd hs B h (IV_up hI) _ _ _ hP hD hS (lv_sub hl [2, 3, 4, 5, 6] rfl)

set_option maxHeartbeats 4000000 in
set_option maxRecDepth 100000 in
theorem lw_digest {p : Program} {e : Env} {s : State} {m : MethodId} {args : Array Value} {below : List Frame} {meth : Method} {cd : Code} {Q : State → Prop} {A : Nat → Prop} (l : Launch) (D : va_G) (cI cZ cS cJ : ClassId) (hl9 : l.stackTraces = false) (X : CallFix p m cd cL_law 9 s args wsL_law RL) (hZ : ZX A s) (hK : va_K D vwCl (tyL cI cZ cS cJ) s) (hA : ∀ q, s.heap.size ≤ q → A q) {b Lx : Nat} {xs : Nat → Int32} (hX : va_X b Lx xs s s.heap) (hbl : b < s.heap.size) (hbA : ¬ A b) (o m0 m1 m2 m3 : Nat) (O k g a d : Nat → Nat) (w0 : Int32) (c : Nat → Nat → Nat) (f : Nat → Option Nat) (z : Nat) (V : Nat → Nat → Nat → Int32) (T : Nat → Int32) (n : Nat) (K G : Nat → Nat → Int32) (L : Nat → Int32) (v : Int32) (ww : Int64) (th ca lt fi sd : Int32) (hs : Int64) (B : Nat → Nat → Nat → Int32) (h : Nat → Int32) (t cells slots : Nat) (ht : t < 600) (hLx : 3 * t + 2 < Lx) (hLx2 : Lx ≤ 1536) (hcs : cells + 1 ≤ room_1.cells ∧ slots + 6 ≤ room_1.slots) (hI : IV t w0 n c f z V B) (hk : KT 1723 p l e s m args below meth cd Q A D cI cZ cS cJ b o m0 m1 m2 m3 O k g a d t (cells + 1) (slots + 6)) (H : Heap) (locs : List Loc) (ls : Array Slot) (hP : va_P D vwCl (List.flatten (LW cI cZ cS cJ o m0 m1 m2 m3 O k g a d w0 c f z V T n K G L v ww th ca lt fi sd hs B h)) H) (hD : va_D A (List.flatten (LW cI cZ cS cJ o m0 m1 m2 m3 O k g a d w0 c f z V T n K G L v ww th ca lt fi sd hs B h))) (hS : va_S A s.heap H locs) (hl : lv_has ls 9 [(0, .ref b), (1, .ref (O 0)), (2, .ref m0), (3, .ref o), (4, .int (nI (3 * t)))]) (hL : vf_n32 (lsF (B 0))) (hF : okF (lsF (B 0)) = true) : W p l e room_1 s m args below meth cd H locs cells slots Q (F0 m 1709 ls []) := by
  obtain ⟨hx, hb, hml, hown, hts⟩ := id X
  have hO : OK (B 0) := hI.2.2.2.1.1
  have hz6 := hI.1.1
  have hn60 := hI.1.2.1
  have hf := hI.1.2.2
  have hV0 : V 0 = B 0 := hI.2.1
  have hOV : OK (V 0) := by rw [hV0]; exact hO
  refine lv_aload_n hx hb dL_law_1709 rfl (lv_at hl 1 rfl) ?_
  refine kcallVJ (U := (Nat → Nat → Int32) × (Nat → Nat → Int32) × (Nat → Int32) × (Int32)) (As := []) (rest := []) (Wr := [mdO m0 m1 m2 m3 th (nI z) w0 (nI n) ca lt fi sd hs, arC cI m1 1170 (enc B), arC cI m2 60 T, arC cI m3 8 h, arJ cJ o ww]) (Wc := [clP cI cZ cS O k g a d w0 c f z V T n K G L v]) (Wo := fun u => [clP cI cZ cS O k g a d w0 c f z V T n u.1 u.2.1 u.2.2.1 u.2.2.2]) X (k_digest l D cI cZ cS cJ O k g a d w0 c f z V T n K G L v  hOV hn60 (by rw [hV0]; exact hL) (by rw [hV0]; exact hF)) (cwV 0 hts gL_law_X6_digest rfl rfl rfl (by decide +kernel) ⟨Nat.le_of_ble_eq_true rfl, Nat.le_of_ble_eq_true rfl⟩) hK hP hD hS hA 0 6 rfl rfl rfl hl.1 rfl (Nat.le_of_ble_eq_true rfl) dL_law_1710 ⟨by omega, by omega⟩ (fun uu H locs hu hP hD hS => ?_)
  obtain ⟨K9, G9, L9, v9⟩ := uu
  have hP : va_P D vwCl (List.flatten [mdO m0 m1 m2 m3 th (nI z) w0 (nI n) ca lt fi sd hs, arC cI m1 1170 (enc B), arC cI m2 60 T, arC cI m3 8 h, arJ cJ o ww, clP cI cZ cS O k g a d w0 c f z V T n K9 G9 L9 v9]) _ := hP
  have hD : va_D A (List.flatten [mdO m0 m1 m2 m3 th (nI z) w0 (nI n) ca lt fi sd hs, arC cI m1 1170 (enc B), arC cI m2 60 T, arC cI m3 8 h, arJ cJ o ww, clP cI cZ cS O k g a d w0 c f z V T n K9 G9 L9 v9]) := hD
  refine lv_eql (y := dgS (B 0) z (cy (B 0)) n T w0) (by rw [hV0]) ?_
  refine lv_aload_n hx hb dL_law_1713 rfl (lv_at hl 2 rfl) ?_
  refine kcallVE (As := []) (rest := [.long (dgS (B 0) z (cy (B 0)) n T w0)]) (Wn := fun u => [mdO m0 m1 m2 m3 0 (nI z) w0 (nI n) ca lt fi sd (dgS (B 0) z (cy (B 0)) n T w0), arC cI m1 1170 (enc u.1), arC cI m2 60 T, arC cI m3 8 u.2, arJ cJ o ww, clP cI cZ cS O k g a d w0 c f z V T n K9 G9 L9 v9]) X (c_X7_digest l D cI cZ cS cJ m0 m1 m2 m3 th w0 ca lt fi sd hs B T h z n hz6 hn60 hO.1 hO.2.1 hO.2.2.1 hO.2.2.2 hL hF) (cwV 0 hts gL_law_X7_digest rfl rfl rfl (by decide +kernel) ⟨Nat.le_of_ble_eq_true rfl, Nat.le_of_ble_eq_true rfl⟩) hK hP hD hS hA [0, 1, 2, 3] rfl (by decide +kernel) (fun _ => rfl) (fun _ => rfl) (fun _ => rfl) 0 7 rfl rfl rfl hl.1 rfl (Nat.le_of_ble_eq_true rfl) dL_law_1714 ⟨by omega, by omega⟩ (fun uu H locs hu hP hD hS => ?_)
  obtain ⟨B9_1, h9_1⟩ := uu
  have h8_1 := hu
  have hP : va_P D vwCl (List.flatten [mdO m0 m1 m2 m3 0 (nI z) w0 (nI n) ca lt fi sd (dgS (B 0) z (cy (B 0)) n T w0), arC cI m1 1170 (enc B9_1), arC cI m2 60 T, arC cI m3 8 h9_1, arJ cJ o ww, clP cI cZ cS O k g a d w0 c f z V T n K9 G9 L9 v9]) _ := hP
  have hD : va_D A (List.flatten [mdO m0 m1 m2 m3 0 (nI z) w0 (nI n) ca lt fi sd (dgS (B 0) z (cy (B 0)) n T w0), arC cI m1 1170 (enc B9_1), arC cI m2 60 T, arC cI m3 8 h9_1, arJ cJ o ww, clP cI cZ cS O k g a d w0 c f z V T n K9 G9 L9 v9]) := hD
  refine W.lcmp hx hb dL_law_1717 ?_
  refine lv_if_eq (tgt := 1723) hx hb dL_law_1718 (by decide) (fun _ => ?_) (fun h => absurd (lg_same _) h)
  refine W.widen (k := cells + 1) (n := slots + 6) (by omega) (by omega) ?_
  exact hk w0 c f z V T n K9 G9 L9 v9 ww 0 ca lt fi sd (dgS (B 0) z (cy (B 0)) n T w0) B9_1 h9_1 (IV_up (IV_B hI h8_1)) _ _ _ hP hD hS (lv_sub hl [0, 1, 2, 3, 4] rfl)

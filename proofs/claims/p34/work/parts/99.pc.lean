set_option maxHeartbeats 4000000 in
set_option maxRecDepth 100000 in
theorem whole_rest {p : Program} {e : Env} {s : State} {m : MethodId} {args : Array Value} {below : List Frame} {meth : Method} {cd : Code} {Q : State → Prop} {A : Nat → Prop} (l : Launch) (D : va_G) (cI cZ cS cJ : ClassId) (X : CallFix p m cd cL_law 13 s args wsL_law RL) (hK : va_K D vwCl (tyL cI cZ cS cJ) s) (hA : ∀ q, s.heap.size ≤ q → A q) (O k g a d : Nat → Nat) {b Lx : Nat} {xs : Nat → Int32} (hX : va_X b Lx xs s s.heap) (hbl : b < s.heap.size) (hbA : ¬ A b) (hLx : Lx ≤ 260) (T : Nat → Int32) (n : Nat) (c : Nat → Nat → Nat) (f : Nat → Option Nat) (z : Nat) (V : Nat → Nat → Nat → Int32) (K G : Nat → Nat → Int32) (L : Nat → Int32) (v : Int32) (hw : WI begS begS c f z V) (hF : FLS) (hend : ∀ (H : Heap) (locs : List Loc) (ls : Array Slot), va_S A s.heap H locs → lv_has ls 13 [(2, .int 1)] → W p l e room_1 s m args below meth cd H locs 143 1424 Q (F0 m 269 ls [])) (H : Heap) (locs : List Loc) (ls : Array Slot) (hP : va_P D vwCl (List.flatten [clP cI cZ cS O k g a d 0 c f z V T n K G L v]) H) (hD : va_D A (List.flatten [clP cI cZ cS O k g a d 0 c f z V T n K G L v])) (hS : va_S A s.heap H locs) (hl : lv_has ls 13 [(1, .ref (O 0)), (0, .ref b)]) : W p l e room_1 s m args below meth cd H locs 143 1424 Q (F0 m 8 ls []) := by
  obtain ⟨hx, hb, hml, hown, hts⟩ := id X
  obtain ⟨hz, hf, hV0, hV7⟩ := id hw
  have hOV : OK (V 0) := by rw [hV0]; exact OK_beg
  refine lv_aload_n hx hb dL_law_8 rfl (lv_at hl 0 rfl) ?_
  refine kcallVJ (U := Unit) (As := []) (rest := []) (Wr := []) (Wc := [clP cI cZ cS O k g a d 0 c f z V T n K G L v]) (Wo := fun u => [clP cI cZ cS O k g a d 1 c f z (vkeep V) T n K G L v]) X (k_keep l D cI cZ cS cJ O k g a d 0 c f z V T n K G L v hOV) (cwV 0 hts gL_law_X6_keep rfl rfl rfl (by decide +kernel) ⟨Nat.le_of_ble_eq_true rfl, Nat.le_of_ble_eq_true rfl⟩) hK hP hD hS hA 0 6 rfl rfl rfl hl.1 rfl (Nat.le_of_ble_eq_true rfl) dL_law_9 ⟨Nat.le_of_ble_eq_true rfl, Nat.le_of_ble_eq_true rfl⟩ (fun u H locs hu hP hD hS => ?_)
  have hP : va_P D vwCl (List.flatten [clP cI cZ cS O k g a d 1 c f z (vkeep V) T n K G L v]) _ := hP
  have hD : va_D A (List.flatten [clP cI cZ cS O k g a d 1 c f z (vkeep V) T n K G L v]) := hD
  refine lv_eqi (y := begS 12 0) (by rw [hV0] <;> rfl) ?_
  have hwk := WI_keep hw
  generalize vkeep V = Vk at hP hD hwk
  obtain ⟨hzk, hfk, hVk, hV7k⟩ := id hwk
  have hOVk : OK (Vk 0) := by rw [hVk]; exact OK_beg
  have hP : va_P D vwCl (List.flatten [clP cI cZ cS O k g a d 1 c f z Vk T n K G L v]) _ := hP
  have hD : va_D A (List.flatten [clP cI cZ cS O k g a d 1 c f z Vk T n K G L v]) := hD
  refine lv_if_ne (tgt := 26) hx hb dL_law_12 (by decide) (fun h => absurd (by decide) h) (fun _ => ?_)
  refine lv_aload_n hx hb dL_law_15 rfl (lv_at hl 0 rfl) ?_
  refine kcallSJ (U := (Nat → Nat → Int32) × (Nat → Nat → Int32) × (Nat → Int32) × Int32) (As := [.ref (O 0)]) (rest := []) (Wr := []) (Wc := [clP cI cZ cS O k g a d 1 c f z Vk T n K G L v]) (Wo := fun u => [clP cI cZ cS O k g a d 1 c f z Vk T n u.1 u.2.1 u.2.2.1 u.2.2.2]) X (c_L_holds l D cI cZ cS cJ O k g a d 1 c f z Vk T n K G L v hOVk _ (by rw [hVk]; exact GD_beg.2) (by decide) (by rw [hVk]; exact PD_beg.2.1) (by rw [hVk]; exact hF 0 _ (by decide) GD_beg)) (va_cwS 1 hts gL_law_L_holds rfl rfl rfl (by decide +kernel) ⟨Nat.le_of_ble_eq_true rfl, Nat.le_of_ble_eq_true rfl⟩) hK hP hD hS hA rfl hl.1 rfl (Nat.le_of_ble_eq_true rfl) dL_law_16 ⟨Nat.le_of_ble_eq_true rfl, Nat.le_of_ble_eq_true rfl⟩ (fun uu H locs hu hP hD hS => ?_)
  obtain ⟨K8, G8, L8, v8⟩ := uu
  have hP : va_P D vwCl (List.flatten [clP cI cZ cS O k g a d 1 c f z Vk T n K8 G8 L8 v8]) _ := hP
  have hD : va_D A (List.flatten [clP cI cZ cS O k g a d 1 c f z Vk T n K8 G8 L8 v8]) := hD
  refine lv_if_eq (tgt := 26) hx hb dL_law_19 (by decide) (fun h => absurd h (by decide)) (fun _ => ?_)
  refine lv_iconst (v := 1) hx hb dL_law_22 (by decide) ?_
  refine lv_goto (tgt := 27) hx hb dL_law_23 (by decide) ?_
  refine lv_istore_n (lv' := [(2, .int 1), (1, .ref (O 0)), (0, .ref b)]) hx hb dL_law_27 rfl hl (by decide) rfl (fun ls hl => ?_)
  refine lv_iconst (v := 0) hx hb dL_law_28 (by decide) ?_
  refine lv_istore_n (lv' := [(3, .int 0), (2, .int 1), (1, .ref (O 0)), (0, .ref b)]) hx hb dL_law_29 rfl hl (by decide) rfl (fun ls hl => ?_)
  have hl : lv_has ls 13 [(3, .int (nI 0)), (2, .int 1), (1, .ref (O 0)), (0, .ref b)] := lv_re hl 0 (x := 0) (y := nI 0) rfl (rfl) rfl
  exact lw_loop l D cI cZ cS cJ X hK hA O k g a d hX hbl hbA hLx T n hF hend 51 0 (by omega) (by omega) c f z Vk K8 G8 L8 v8 begS begS hwk PD_beg PD_beg _ _ _ hP hD hS (lv_sub hl [0, 1, 2, 3] rfl)

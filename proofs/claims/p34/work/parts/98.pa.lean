/-! the rooms of the law's methods; calls of its own -/
abbrev RM_up : Room := { frames := 0, cells := 0, slots := 0, locals := 0 }
abbrev RM_cell : Room := { frames := 0, cells := 0, slots := 0, locals := 0 }
abbrev RM_looks : Room := { frames := 6, cells := 0, slots := 0, locals := 131 }
abbrev RM_act : Room := { frames := 7, cells := 0, slots := 0, locals := 155 }
abbrev RM_holds : Room := { frames := 7, cells := 0, slots := 0, locals := 157 }
abbrev RM_isAhead : Room := { frames := 7, cells := 0, slots := 0, locals := 156 }
def sh9 (y n : Int32) : Int32 := y >>> (n &&& 31)
section CALLSJ
variable {p : Program} {l : Launch} {e : Env} {R : Room} {s : State} {m : MethodId} {args : Array Value} {below : List Frame} {meth : Method} {c : Code} {H : Heap} {locs : List Loc} {cells slots : Nat} {Q : State → Prop}
variable {cc bytes : ByteArray} {pc : Nat} {ls : Array Slot} {rest st0 As : List Value} {D : va_G} {A : Nat → Prop} {b : Nat} {ty : TY} {Wr Wc : List va_W} {wr wc : va_W} {H0 : Heap} {nL maxL mc ms n index : Nat} {Ts wl : List Cond} {own C : String} {y : MethodName} {ret : Option FieldType} {rm : Room} {U : Type} {φ : U → Prop} {val : U → Option Value} {wo : U → va_W} {Wo : U → List va_W}
theorem kcallSJ (X : CallFix p m c cc nL s args Ts own) (hc : CE l y wl rm D ty As Wc.flatten φ val (fun u => (Wo u).flatten) mc ms) (cw : CallB R s args own index y bytes maxL ret wl rm mc ms n ∧ (Cond.static y).before args s = true)
    (hK : va_K D vwCl ty s) (hP : va_P D vwCl (Wr ++ Wc).flatten H) (hD : va_D A (Wr ++ Wc).flatten) (hS : va_S A H0 H locs) (hA : ∀ q, H0.size ≤ q → A q)
    (hn : As.length = n) (hsz : ls.size = nL) (hst : st0 = As.reverse ++ rest) (hW : (rest.map fun v => v.category).sum ≤ 8) (hdg : decode cc pc = .ok (.invokestatic index, 3)) (hf : cells + mc ≤ R.cells ∧ slots + ms ≤ R.slots)
    (kk : ∀ (u : U) (H1 : Heap) (locs1 : List Loc), φ u → va_P D vwCl (Wr ++ Wo u).flatten H1 → va_D A (Wr ++ Wo u).flatten → va_S A H0 H1 locs1 → W p l e R s m args below meth c H1 locs1 (cells + mc) (slots + ms) Q (F0 m (pc + 3) ls ((val u).toList ++ rest))) : W p l e R s m args below meth c H locs cells slots Q (F0 m pc ls st0) := by
  have ef : ∀ X : List va_W, (Wr ++ X).flatten = Wr.flatten ++ X.flatten := fun X => by simp
  simp only [ef] at hP hD kk
  have hPc := P_right hP
  exact call_genJ (va_runS (As := As) (rest := rest) X (hc H.size) cw ⟨Wd_blind D ty H.size Wc.flatten _, fun U hU hW => ⟨rfl, by rw [hU], by rw [hU]; exact hPc, va_K.moved hW.alike hK, (D_right hD).weaken (fun _ _ _ _ => trivial)⟩⟩ rfl hn hsz hst (lv_room hW) hdg hf) hP hD hS hA kk
/-- the script, seen from a callee -/
def XS (b L : Nat) (xs : Nat → Int32) (sz : Nat) (S : State) : Prop := va_X b L xs S S.heap ∧ b < sz
/-- a method that reads the script and changes nothing -/
def CX (l : Launch) (y : MethodName) (wl : List Cond) (rm : Room) (D : va_G) (ty : TY) (as : List Value) (b L : Nat) (xs : Nat → Int32) (val : Option Value) : Prop :=
  ∀ sz, Met l y wl rm (va_Pc as (fun S => Wd D ty sz [] S ∧ XS b L xs sz S)) (QoE D ty sz [] (fun _ : Unit => True) (fun _ => val) (fun _ => [])) 0 0 (va_A [] sz)
theorem XS_blind (D : va_G) (ty : TY) (sz b L : Nat) (xs : Nat → Int32) (as : List Value) : FrameBlind (va_Pc as (fun S => Wd D ty sz [] S ∧ XS b L xs sz S)) := fun a U g mk q => by
  obtain ⟨q0, ⟨q1, qP, qK, qD⟩, qZ, qb⟩ := q
  exact ⟨q0, ⟨q1, qP, va_K.moved (u := U) (U := U.calling g mk a) (Vm.Alike.refl U.vm) qK, qD⟩, va_X.moved (u := U) (U := U.calling g mk a) (Vm.Alike.refl U.vm) qZ, qb⟩
theorem kcallX {b0 L : Nat} {xs : Nat → Int32} {v : Option Value} (X : CallFix p m c cc nL s args Ts own) (hc : CX l y wl rm D ty As b0 L xs v) (cw : CallB R s args own index y bytes maxL ret wl rm 0 0 n ∧ (Cond.static y).before args s = true)
    (hX : va_X b0 L xs s s.heap) (hbl : b0 < s.heap.size) (hbA : ¬ A b0)
    (hK : va_K D vwCl ty s) (hP : va_P D vwCl Wr.flatten H) (hD : va_D A Wr.flatten) (hS : va_S A s.heap H locs) (hA : ∀ q, s.heap.size ≤ q → A q)
    (hn : As.length = n) (hsz : ls.size = nL) (hst : st0 = As.reverse ++ rest) (hW : (rest.map fun v => v.category).sum ≤ 8) (hdg : decode cc pc = .ok (.invokestatic index, 3)) (hf : cells + 0 ≤ R.cells ∧ slots + 0 ≤ R.slots)
    (kk : ∀ (H1 : Heap) (locs1 : List Loc), va_P D vwCl Wr.flatten H1 → va_D A Wr.flatten → va_S A s.heap H1 locs1 → W p l e R s m args below meth c H1 locs1 cells slots Q (F0 m (pc + 3) ls (v.toList ++ rest))) : W p l e R s m args below meth c H locs cells slots Q (F0 m pc ls st0) := by
  have e0 : ∀ X : va_W, X ++ [] = X := fun X => List.append_nil X
  refine call_genJ (wr := Wr.flatten) (wc := []) (wo := fun _ : Unit => []) (φ := fun _ => True) (val := fun _ => v) (mc := 0) (ms := 0) (va_runS (As := As) (rest := rest) X (hc H.size) cw ⟨XS_blind D ty H.size b0 L xs _, fun U hU hW => ⟨rfl, ⟨by rw [hU], fun k q h => by simp at h, va_K.moved hW.alike hK, ⟨fun i j p q h => by simp at h, fun k q h => by simp at h⟩⟩, ?_, ?_⟩⟩ rfl hn hsz hst (lv_room hW) hdg hf) (by rw [e0]; exact hP) (by rw [e0]; exact hD) hS hA (fun _ H1 locs1 _ hP1 hD1 hS1 => ?_)
  · rw [hU]
    exact va_X.moved hW.alike (va_X.kept hX (hS.2.1 b0 hbl hbA))
  · exact Nat.lt_of_lt_of_le hbl hS.1
  · rw [e0] at hP1 hD1
    exact kk H1 locs1 hP1 hD1 hS1
end CALLSJ

set_option maxHeartbeats 4000000 in
set_option maxRecDepth 100000 in
theorem c_L_up (l : Launch) (D : va_G) (ty : TY) (v : Int32) (k : Nat) (h0 : 0 < k) (hk : k < 2 ^ 31) : CE (U := Unit) l yL_up wsL_up RM_up D ty [.int v, .int (nI k)] (List.flatten []) (fun _ => True) (fun _ => some (.int (nI (upN v k)))) (fun _ => List.flatten []) 0 0 := by
  have hk0 : ¬ nI k = 0 := fun q => by
    have q2 := congrArg Int32.toInt q
    have e : (0 : Int32).toInt = 0 := rfl
    rw [nI_toInt (by omega), e] at q2
    omega
  refine CE_int (cc := cL_up) (maxL := 2) (rt := .int) (by decide) rfl (Nat.le_of_ble_eq_true rfl) (fun _ _ => rfl) ?_
  intro p e s m below meth cd A ls Q X hK hP hD hS hA hl hend
  have X : CallFix p m cd cL_up 2 s ([.int v, .int (nI k)] : List Value).toArray wsL_up RL := X
  obtain ⟨hx, hb, hml, hown, hts⟩ := id X
  have hl : lv_has ls 2 [(0, .int v), (1, .int (nI k))] := hl
  refine lv_iload_n hx hb dL_up_0 rfl (lv_at hl 0 rfl) ?_
  refine lv_ldc (v := 2147483647) hx hb hown (hts (.constant RL 8 2147483647) (by decide +kernel)) dL_up_1 ?_
  refine lv_iand hx hb dL_up_3 ?_
  refine lv_iload_n hx hb dL_up_4 rfl (lv_at hl 1 rfl) ?_
  refine lv_irem hx hb dL_up_5 hk0 ?_
  refine lv_eqi (y := nI (upN v k)) (up_e v h0 hk) ?_
  exact hend () _ _ _ _ _ trivial rfl hP hD hS dL_up_6

/-- a number of the script; behind its end one that is made up -/
def cellV (Lx : Nat) (xs : Nat → Int32) (k : Nat) : Int32 := if k < Lx then xs k else 1812433253 * (nI k + 311)
set_option maxHeartbeats 4000000 in
set_option maxRecDepth 100000 in
theorem c_L_cell (l : Launch) (D : va_G) (ty : TY) (b Lx : Nat) (xs : Nat → Int32) (k : Nat) (hk : k < 2 ^ 30) (hL : Lx < 2 ^ 30) : CX l yL_cell wsL_cell RM_cell D ty [.ref b, .int (nI k)] b Lx xs (some (.int (cellV Lx xs k))) := by
  intro sz
  refine Met.ofW (cc := cL_cell) (maxL := 2) (ret := some .int) (by decide) rfl ?_
  intro p e s m args below meth cd s₁ B hml2 hv
  obtain ⟨rfl, ⟨hsz, hP, hK, hD0⟩, hXc, hbl⟩ := hv
  have hl := lv_entry [.ref b, .int (nI k)] (n := 2) (Nat.le_of_ble_eq_true rfl)
  rw [lg_entry_eq]
  subst hsz
  generalize (lg_sl [.ref b, .int (nI k)] ++ List.replicate (2 - (lg_sl [.ref b, .int (nI k)]).length) Slot.unset).toArray = ls at hl ⊢
  have hl : lv_has ls 2 [(0, .ref b), (1, .int (nI k))] := hl
  have X : CallFix p m cd cL_cell 2 s ([.ref b, .int (nI k)] : List Value).toArray wsL_cell RL := ⟨B.exec, B.bytes, hml2, findClass_of_methodNamed B.named, atoms_spec (ws := wsL_cell) B.pre⟩
  obtain ⟨hx, hb, hml, hown, hts⟩ := id X
  have hbA : ¬ va_A [] s.heap.size b := fun q => by
    rcases q with ⟨k9, e9, h9⟩ | h9
    · simp at h9
    · omega
  have hS : va_S (va_A [] s.heap.size) s.heap s.heap [] := va_S.rf
  refine lv_iload_n hx hb dL_cell_0 rfl (lv_at hl 1 rfl) ?_
  refine lv_aload_n hx hb dL_cell_1 rfl (lv_at hl 0 rfl) ?_
  refine va_slen hx hb hXc hbl hbA hS dL_cell_2 ?_
  refine n_ge (i := k) (j := Lx) (tgt := 12) hx hb (by omega) (by omega) dL_cell_3 (by decide) (fun c3 => ?_) (fun c3 => ?_)
  · skip
    refine lv_ldc (v := 1812433253) hx hb hown (hts (.constant RL 7 1812433253) (by decide +kernel)) dL_cell_12 ?_
    refine lv_iload_n hx hb dL_cell_14 rfl (lv_at hl 1 rfl) ?_
    refine lv_sipush (v := 311) hx hb dL_cell_15 (by decide) ?_
    refine lv_iadd hx hb dL_cell_18 ?_
    refine lv_imul hx hb dL_cell_19 ?_
    refine lv_eqi (y := cellV Lx xs k) (if_neg (by omega)).symm ?_
    exact W.zret (v := cellV Lx xs k) B.exec B.bytes B.returns rfl (fun t ht hW => ⟨⟨(), trivial, rfl, fun k q h => by simp at h, va_K.moved hW.alike hK, ⟨fun i j p q h => by simp at h, fun k q h => by simp at h⟩⟩, hS.F ht⟩) hS.2.2 dL_cell_20 B.notSynchronized
  · skip
    refine lv_aload_n hx hb dL_cell_6 rfl (lv_at hl 0 rfl) ?_
    refine lv_iload_n hx hb dL_cell_7 rfl (lv_at hl 1 rfl) ?_
    refine va_sld hx hb hXc hbl hbA hS (vp_in_nI (n := k) (N := Lx) (by omega) (by omega)) dL_cell_8 ?_
    refine lv_eqi (y := cellV Lx xs k) (by rw [nI_clamp (by omega)]; exact (if_pos c3).symm) ?_
    refine lv_goto (tgt := 20) hx hb dL_cell_9 (by decide) ?_
    exact W.zret (v := cellV Lx xs k) B.exec B.bytes B.returns rfl (fun t ht hW => ⟨⟨(), trivial, rfl, fun k q h => by simp at h, va_K.moved hW.alike hK, ⟨fun i j p q h => by simp at h, fun k q h => by simp at h⟩⟩, hS.F ht⟩) hS.2.2 dL_cell_20 B.notSynchronized

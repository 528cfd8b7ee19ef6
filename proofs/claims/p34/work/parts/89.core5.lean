/-! a constructor called on an object just made, the last part of the world -/
theorem L_left {w1 w2 : va_W} {k : Nat} {x : Nat × va_E} (h : w1[k]? = some x) : (w1 ++ w2)[k]? = some x := by
  have hl := (List.getElem?_eq_some_iff.mp h).1
  rw [List.getElem?_append_left hl]
  exact h
theorem L_last {w1 : va_W} {x : Nat × va_E} : (w1 ++ [x])[w1.length]? = some x := by
  rw [List.getElem?_append_right (Nat.le_refl _), Nat.sub_self]
  rfl
section MAKEC
variable {p : Program} {l : Launch} {e : Env} {R : Room} {s : State} {m : MethodId} {args : Array Value} {below : List Frame} {meth : Method} {c : Code} {H : Heap} {locs : List Loc} {cells slots : Nat} {Q : State → Prop}
variable {cc bytes : ByteArray} {pc : Nat} {ls : Array Slot} {rest st0 As : List Value} {D : va_G} {A : Nat → Prop} {b : Nat} {ty : TY} {Wr : List va_W} {H0 : Heap} {nL maxL mc ms n index : Nat} {Ts wl : List Cond} {own : String} {y : MethodName} {rm : Room} {U : Type} {φ : U → Prop} {Wo : U → List va_W}
theorem call_genI {ci : Nat} {fs : List Value} (hr : va_P D vwCl (List.flatten [obC b ci fs]) H → va_D (fun _ => True) (List.flatten [obC b ci fs]) → va_Run p l e R s m args below meth c H locs cells slots mc ms (F0 m pc ls st0) rest (QoE D ty H.size (List.flatten [obC b ci fs]) φ (fun _ => none) (fun u => (Wo u).flatten) (Value.ref b :: As).toArray) (va_A (List.flatten [obC b ci fs]) H.size))
    (hP : va_P D vwCl (Wr ++ [obC b ci fs]).flatten H) (hD : va_D A (Wr ++ [obC b ci fs]).flatten) (hS : va_S A H0 H locs) (hA : ∀ q, H0.size ≤ q → A q)
    (kk : ∀ (u : U) (H1 : Heap) (locs1 : List Loc), φ u → va_P D vwCl (Wr ++ Wo u).flatten H1 → va_D A (Wr ++ Wo u).flatten → va_S A H0 H1 locs1 → W p l e R s m args below meth c H1 locs1 (cells + mc) (slots + ms) Q (F0 m (pc + 3) ls rest)) : W p l e R s m args below meth c H locs cells slots Q (F0 m pc ls st0) := by
  have ef : (Wr ++ [obC b ci fs]).flatten = Wr.flatten ++ [(b, .inr (ci, fs))] := by simp
  rw [ef] at hP hD
  have hPo : va_P D vwCl (List.flatten [obC b ci fs]) H := fun k x hk => by
    have hz : k < 1 := (List.getElem?_eq_some_iff.mp hk).1
    rw [show k = 0 by omega] at hk
    cases hk
    exact hP _ _ L_last
  have hAb : A b := hD.2 _ _ (L_last (w1 := Wr.flatten))
  have hDo : va_D (fun _ => True) (List.flatten [obC b ci fs]) := ⟨fun i j x z hi hj _ => by
    have h1 : i < 1 := (List.getElem?_eq_some_iff.mp hi).1
    have h2 : j < 1 := (List.getElem?_eq_some_iff.mp hj).1
    omega, fun _ _ _ => trivial⟩
  have hF : ∀ q, va_A (List.flatten [obC b ci fs]) H.size q → A q := fun q h => by
    rcases h with ⟨k, e0, hk⟩ | h
    · have hz : k < 1 := (List.getElem?_eq_some_iff.mp hk).1
      rw [show k = 0 by omega] at hk
      cases hk
      exact hAb
    · exact hA q (Nat.le_trans hS.1 h)
  have hr := hr hPo hDo
  intro T hT X9
  obtain ⟨v0, st₀, t, T', L, h0, X', hL, e1, e2, ⟨⟨u, hu, hv, hP1, hK1, hD1⟩, hz, hk⟩, st⟩ := hr T hT X9
  cases hv
  rw [h0] at hz hk
  rw [← e1] at hz hk hP1
  have apart : ∀ (k : Nat) (x : Nat × va_E), Wr.flatten[k]? = some x → x.1 < H.size ∧ ¬ va_A (List.flatten [obC b ci fs]) H.size x.1 := fun k x hx => by
    have hlt := (hP k x (L_left hx)).lt
    refine ⟨hlt, fun h => ?_⟩
    rcases h with ⟨k2, e0, hk2⟩ | h
    · have hz2 : k2 < 1 := (List.getElem?_eq_some_iff.mp hk2).1
      rw [show k2 = 0 by omega] at hk2
      have eb : x.1 = b := by
        have := Option.some.inj hk2
        exact (congrArg Prod.fst this).symm
      have ei := hD.1 k Wr.flatten.length x _ (L_left hx) L_last eb
      have := (List.getElem?_eq_some_iff.mp hx).1
      omega
    · omega
  have efu : (Wr ++ Wo u).flatten = Wr.flatten ++ (Wo u).flatten := by simp
  have hPn : va_P D vwCl (Wr ++ Wo u).flatten T'.heap := by
    rw [efu]
    exact (va_P.kept (ws := Wr.flatten) (fun k x hx => hP k x (L_left hx)) (fun k x hx => hk x.1 (apart k x hx).1 (apart k x hx).2)).app hP1
  have hDn : va_D A (Wr ++ Wo u).flatten := by
    rw [efu]
    refine va_D.app ⟨fun i j x z hi hj ee => hD.1 i j x z (L_left hi) (L_left hj) ee, fun k x hx => hD.2 k x (L_left hx)⟩ ⟨hD1.1, fun k x hx => hF _ (hD1.2 k x hx)⟩ (fun i j x z hi hj ee => (apart i x hi).2 (by rw [ee]; exact hD1.2 j z hj))
  obtain ⟨t2, a1, b1⟩ := kk u T'.heap (locs ++ L) hu hPn hDn ⟨Nat.le_trans hS.1 hz, fun q h1 h2 => by
      rw [hk q (Nat.lt_of_lt_of_le h1 hS.1) (fun z => h2 (hF q z))]; exact hS.2.1 q h1 h2, fun q hq => by
      rcases List.mem_append.mp hq with h | h
      · exact hS.2.2 q h
      · exact hF _ (hL q h)⟩ T' rfl X'
  exact ⟨t2, st t2 a1, b1⟩
theorem kcallI (X : CallFix p m c cc nL s args Ts own) {ci : Nat} {fs : List Value} (hc : CE l y wl rm D ty (.ref b :: As) (List.flatten [obC b ci fs]) φ (fun _ => none) (fun u => (Wo u).flatten) mc ms) (cw : CallB R s args own index y bytes maxL none wl rm mc ms n ∧ y.name = "<init>" ∧ (Cond.instanceMethod y).before args s = true)
    (hK : va_K D vwCl ty s) (hP : va_P D vwCl (Wr ++ [obC b ci fs]).flatten H) (hD : va_D A (Wr ++ [obC b ci fs]).flatten) (hS : va_S A H0 H locs) (hA : ∀ q, H0.size ≤ q → A q)
    (hn : As.length = n) (hsz : ls.size = nL) (hst : st0 = As.reverse ++ .ref b :: rest) (hW : (rest.map fun v => v.category).sum ≤ 8) (hdg : decode cc pc = .ok (.invokespecial index, 3)) (hf : cells + mc ≤ R.cells ∧ slots + ms ≤ R.slots)
    (kk : ∀ (u : U) (H1 : Heap) (locs1 : List Loc), φ u → va_P D vwCl (Wr ++ Wo u).flatten H1 → va_D A (Wr ++ Wo u).flatten → va_S A H0 H1 locs1 → W p l e R s m args below meth c H1 locs1 (cells + mc) (slots + ms) Q (F0 m (pc + 3) ls rest)) : W p l e R s m args below meth c H locs cells slots Q (F0 m pc ls st0) :=
  call_genI (fun hPo hDo => va_runI (As := As) (rest := rest) (b := b) X (hc H.size) cw ⟨Wd_blind D ty H.size (List.flatten [obC b ci fs]) _, fun U hU hW => ⟨rfl, by rw [hU], by rw [hU]; exact hPo, va_K.moved hW.alike hK, hDo⟩⟩ rfl hn hsz hst (lv_room hW) hdg hf) hP hD hS hA kk
/-- a constructor of a class of the same nest, its contract plain -/
theorem kcallIN (X : CallFix p m c cc nL s args Ts own) {host : String} {ci : Nat} {fs : List Value} (hc : CE l y wl rm D ty (.ref b :: As) (List.flatten [obC b ci fs]) φ (fun _ => none) (fun u => (Wo u).flatten) mc ms) (cw : va_CN R s args own index y host bytes maxL none wl rm mc ms n ∧ y.name = "<init>" ∧ (Cond.instanceMethod y).before args s = true)
    (hK : va_K D vwCl ty s) (hP : va_P D vwCl (Wr ++ [obC b ci fs]).flatten H) (hD : va_D A (Wr ++ [obC b ci fs]).flatten) (hS : va_S A H0 H locs) (hA : ∀ q, H0.size ≤ q → A q)
    (hn : As.length = n) (hsz : ls.size = nL) (hst : st0 = As.reverse ++ .ref b :: rest) (hW : (rest.map fun v => v.category).sum ≤ 8) (hdg : decode cc pc = .ok (.invokespecial index, 3)) (hf : cells + mc ≤ R.cells ∧ slots + ms ≤ R.slots)
    (kk : ∀ (u : U) (H1 : Heap) (locs1 : List Loc), φ u → va_P D vwCl (Wr ++ Wo u).flatten H1 → va_D A (Wr ++ Wo u).flatten → va_S A H0 H1 locs1 → W p l e R s m args below meth c H1 locs1 (cells + mc) (slots + ms) Q (F0 m (pc + 3) ls rest)) : W p l e R s m args below meth c H locs cells slots Q (F0 m pc ls st0) :=
  call_genI (fun hPo hDo => va_runIN (As := As) (rest := rest) (b := b) X (hc H.size) cw ⟨Wd_blind D ty H.size (List.flatten [obC b ci fs]) _, fun U hU hW => ⟨rfl, by rw [hU], by rw [hU]; exact hPo, va_K.moved hW.alike hK, hDo⟩⟩ rfl hn hsz hst (lv_room hW) hdg hf) hP hD hS hA kk
theorem r_newO (hexec : p.tables.exec = Jvm.exec) (hb : c.code = cc) {C : String} {T : u_T} {N ci : Nat} (hts : ∀ w ∈ Ts, w.before args s = true) (hin : ∀ w ∈ u_ws C T N, w ∈ Ts) (ty0 : Nat → FieldType) (hty : ∀ k, k < N → parseFieldDescriptor (T k).2.2.1 = some (ty0 k)) (hown : s.vm.findClass own = some m.cls) (hcl : (Cond.classLink own index C).before args s = true) (hinst : (Cond.instantiable C N).before args s = true) (hini : (Cond.initialized C).before args s = true)
    (hK : va_K D vwCl ty s) (hP : va_P D vwCl Wr.flatten H) (hD : va_D A Wr.flatten) (hS : va_S A H0 H locs) (hA : ∀ q, H0.size ≤ q → A q) (hc : vwCl[ci]? = some (C, T, N)) (fs : List Value) (hfs : ∀ j, j < N → defaultValue (ty0 j) = vp_V fs j) (hcells : cells + 1 ≤ R.cells) (hslots : slots + N ≤ R.slots) (hdg : decode cc pc = .ok (.new index, 3))
    (kk : ∀ (q : Nat) (H1 : Heap), va_P D vwCl (Wr ++ [obC q ci fs]).flatten H1 → va_D A (Wr ++ [obC q ci fs]).flatten → va_S A H0 H1 locs → W p l e R s m args below meth c H1 locs (cells + 1) (slots + N) Q (F0 m (pc + 3) ls (.ref q :: rest))) : W p l e R s m args below meth c H locs cells slots Q (F0 m pc ls rest) := by
  refine va_new (cl := vwCl) hexec hb hts hin ty0 hty hown hcl hinst hini hK hP hD hS hA hc hfs hcells hslots hdg (fun q H1 hP hD hS => ?_)
  have ef : (Wr ++ [obC q ci fs]).flatten = Wr.flatten ++ [(q, .inr (ci, fs))] := by simp
  exact kk q H1 (by rw [ef]; exact hP) (by rw [ef]; exact hD) hS
end MAKEC

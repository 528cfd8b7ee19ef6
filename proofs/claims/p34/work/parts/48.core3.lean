/-! contracts whose end is told by some u : U: what nobody reads again is among it -/
def QoE {U : Type} (D : va_G) (ty : TY) (sz : Nat) (ws : va_W) (φ : U → Prop) (val : U → Option Value) (wo : U → va_W) : Array Value → State → Outcome → State → Prop :=
  fun _ st oc t => (∃ u : U, φ u ∧ oc = .returned (val u) ∧ We D ty sz ws (wo u) t) ∧ va_F (va_A ws sz) st t
def CE {U : Type} (l : Launch) (y : MethodName) (wl : List Cond) (rm : Room) (D : va_G) (ty : TY) (as : List Value) (ws : va_W) (φ : U → Prop) (val : U → Option Value) (wo : U → va_W) (mc ms : Nat) : Prop :=
  ∀ sz, Met l y wl rm (va_Pc as (Wd D ty sz ws)) (QoE D ty sz ws φ val wo) mc ms (va_A ws sz)
section CALLE
variable {p : Program} {l : Launch} {e : Env} {R : Room} {s : State} {m : MethodId} {args : Array Value} {below : List Frame} {meth : Method} {c : Code} {H : Heap} {locs : List Loc} {cells slots : Nat} {Q : State → Prop}
variable {cc bytes : ByteArray} {pc : Nat} {ls : Array Slot} {rest st0 As : List Value} {D : va_G} {A : Nat → Prop} {b : Nat} {ty : TY} {Ws Wc : List va_W} {H0 : Heap} {nL maxL mc ms n index : Nat} {Ts wl : List Cond} {own C : String} {y : MethodName} {ret : Option FieldType} {rm : Room} {U : Type} {φ : U → Prop} {val : U → Option Value} {Wo Wn : U → List va_W}
theorem call_genE (hr : va_Run p l e R s m args below meth c H locs cells slots mc ms (F0 m pc ls st0) rest (QoE D ty H.size Wc.flatten φ val (fun u => (Wo u).flatten) args) (va_A Wc.flatten H.size)) (hP : va_P D vwCl Ws.flatten H) (hD : va_D A Ws.flatten) (hS : va_S A H0 H locs) (hA : ∀ q, H0.size ≤ q → A q)
    (is : List Nat) (hC : is.map (fun i => Ws[i]?) = Wc.map some) (hlen : ∀ u, is.length = (Wo u).length) (hwn : ∀ u, stA Ws (is.zip (Wo u)) = Wn u) (hfa : ∀ u, mpA (Wo u) = mpB Wc)
    (kk : ∀ (u : U) (H1 : Heap) (locs1 : List Loc), φ u → va_P D vwCl (Wn u).flatten H1 → va_D A (Wn u).flatten → va_S A H0 H1 locs1 → W p l e R s m args below meth c H1 locs1 (cells + mc) (slots + ms) Q (F0 m (pc + 3) ls ((val u).toList ++ rest))) : W p l e R s m args below meth c H locs cells slots Q (F0 m pc ls st0) := by
  have hF := freeF (Wc := Wc) hD hS hA is hC
  intro T hT X
  obtain ⟨v0, st₀, t, T', L, h0, X', hL, e1, e2, ⟨⟨u, hu, hv, hP1, hK1, hD1⟩, hz, hk⟩, st⟩ := hr T hT X
  cases hv
  rw [h0] at hz hk
  rw [← e1] at hz hk hP1
  have hPn : va_P D vwCl (Wn u).flatten T'.heap := by rw [← hwn u]; exact P_mergeF hP hD is hC (hlen u) hk hP1
  have hDn : va_D A (Wn u).flatten := by rw [← hwn u]; exact D_mergeF hD is hC (hfa u)
  obtain ⟨t2, a1, b1⟩ := kk u T'.heap (locs ++ L) hu hPn hDn ⟨Nat.le_trans hS.1 hz, fun q h1 h2 => by
      rw [hk q (Nat.lt_of_lt_of_le h1 hS.1) (fun z => h2 (hF q z))]; exact hS.2.1 q h1 h2, fun q hq => by
      rcases List.mem_append.mp hq with h | h
      · exact hS.2.2 q h
      · exact hF _ (hL q h)⟩ T' rfl X'
  exact ⟨t2, st t2 a1, b1⟩
theorem kcallVE (X : CallFix p m c cc nL s args Ts own) (hc : CE l y wl rm D ty (.ref b :: As) Wc.flatten φ val (fun u => (Wo u).flatten) mc ms) (cw : CallW R s args own C index y bytes maxL ret wl rm mc ms n)
    (hK : va_K D vwCl ty s) (hP : va_P D vwCl Ws.flatten H) (hD : va_D A Ws.flatten) (hS : va_S A H0 H locs) (hA : ∀ q, H0.size ≤ q → A q)
    (is : List Nat) (hC : is.map (fun i => Ws[i]?) = Wc.map some) (hnd : va_nd is = true) (hlen : ∀ u, is.length = (Wo u).length) (hwn : ∀ u, stA Ws (is.zip (Wo u)) = Wn u) (hfa : ∀ u, mpA (Wo u) = mpB Wc)
    (q0 ci : Nat) {fs : List Value} {T : u_T} {N : Nat} (he : (Ws.flatten)[q0]? = some (b, .inr (ci, fs))) (hcl : vwCl[ci]? = some (C, T, N))
    (hn : As.length = n) (hsz : ls.size = nL) (hst : st0 = As.reverse ++ .ref b :: rest) (hW : (rest.map fun v => v.category).sum ≤ 8) (hdg : decode cc pc = .ok (.invokevirtual index, 3)) (hf : cells + mc ≤ R.cells ∧ slots + ms ≤ R.slots)
    (kk : ∀ (u : U) (H1 : Heap) (locs1 : List Loc), φ u → va_P D vwCl (Wn u).flatten H1 → va_D A (Wn u).flatten → va_S A H0 H1 locs1 → W p l e R s m args below meth c H1 locs1 (cells + mc) (slots + ms) Q (F0 m (pc + 3) ls ((val u).toList ++ rest))) : W p l e R s m args below meth c H locs cells slots Q (F0 m pc ls st0) :=
  call_genE (va_runV (As := As) (rest := rest) (b := b) X (hc H.size) cw ⟨Wd_blind D ty H.size Wc.flatten _, va_recv (q := (C, T, N)) hK hP hcl he, fun U hU hW => ⟨rfl, by rw [hU], by rw [hU]; exact P_subF hP is hC, va_K.moved hW.alike hK, (D_subF hD is hnd hC).weaken (fun _ _ _ _ => trivial)⟩⟩ rfl hn hsz hst (lv_room hW) hdg hf) hP hD hS hA is hC hlen hwn hfa kk
theorem kcallSE (X : CallFix p m c cc nL s args Ts own) (hc : CE l y wl rm D ty As Wc.flatten φ val (fun u => (Wo u).flatten) mc ms) (cw : CallB R s args own index y bytes maxL ret wl rm mc ms n ∧ (Cond.static y).before args s = true)
    (hK : va_K D vwCl ty s) (hP : va_P D vwCl Ws.flatten H) (hD : va_D A Ws.flatten) (hS : va_S A H0 H locs) (hA : ∀ q, H0.size ≤ q → A q)
    (is : List Nat) (hC : is.map (fun i => Ws[i]?) = Wc.map some) (hnd : va_nd is = true) (hlen : ∀ u, is.length = (Wo u).length) (hwn : ∀ u, stA Ws (is.zip (Wo u)) = Wn u) (hfa : ∀ u, mpA (Wo u) = mpB Wc)
    (hn : As.length = n) (hsz : ls.size = nL) (hst : st0 = As.reverse ++ rest) (hW : (rest.map fun v => v.category).sum ≤ 8) (hdg : decode cc pc = .ok (.invokestatic index, 3)) (hf : cells + mc ≤ R.cells ∧ slots + ms ≤ R.slots)
    (kk : ∀ (u : U) (H1 : Heap) (locs1 : List Loc), φ u → va_P D vwCl (Wn u).flatten H1 → va_D A (Wn u).flatten → va_S A H0 H1 locs1 → W p l e R s m args below meth c H1 locs1 (cells + mc) (slots + ms) Q (F0 m (pc + 3) ls ((val u).toList ++ rest))) : W p l e R s m args below meth c H locs cells slots Q (F0 m pc ls st0) :=
  call_genE (va_runS (As := As) (rest := rest) X (hc H.size) cw ⟨Wd_blind D ty H.size Wc.flatten _, fun U hU hW => ⟨rfl, by rw [hU], by rw [hU]; exact P_subF hP is hC, va_K.moved hW.alike hK, (D_subF hD is hnd hC).weaken (fun _ _ _ _ => trivial)⟩⟩ rfl hn hsz hst (lv_room hW) hdg hf) hP hD hS hA is hC hlen hwn hfa kk
end CALLE
section BODYE
variable {l : Launch} {y : MethodName} {wl ws' : List Cond} {rm : Room} {D : va_G} {ty : TY} {as : List Value} {ws : va_W} {mc ms : Nat} {cc : ByteArray} {maxL : Nat} {U : Type} {φ : U → Prop} {wo : U → va_W}
theorem CE_gen {ret : Option FieldType} {val : U → Option Value} (hy : plainName y.cls = true) (hw : wl = Cond.code y cc maxL ret :: ws') (hml : (lg_sl as).length ≤ maxL)
    (body : ∀ (p : Program) (e : Env) (s : State) (m : MethodId) (below : List Frame) (meth : Method) (c : Code) (A : Nat → Prop) (ls : Array Slot) (Q : State → Prop),
      CallFix p m c cc maxL s as.toArray wl y.cls → meth.name = y.name → va_K D vwCl ty s → va_P D vwCl ws s.heap → va_D A ws → va_S A s.heap s.heap [] → (∀ q, s.heap.size ≤ q → A q) → lv_has ls maxL (lv_args 0 as) →
      (∀ (u : U) (H : Heap) (locs : List Loc) (g : JFrame), φ u → va_P D vwCl (wo u) H → va_D A (wo u) → va_S A s.heap H locs → (∀ (Qc : Array Value → State → Outcome → State → Prop) (free : Addr → Prop), (∀ t : State, t.heap = H → s.WarmedH t.vm → Qc as.toArray s (.returned (val u)) t) → (∀ q ∈ locs, free q.base) → meth.sig.returnType = ret → meth.locks = false → W p l e rm s m as.toArray below meth c H locs mc ms (MQ below Qc as.toArray s mc ms free) g) → W p l e rm s m as.toArray below meth c H locs mc ms Q g) →
      W p l e rm s m as.toArray below meth c s.heap [] 0 0 Q (F0 m 0 ls [])) : CE l y wl rm D ty as ws φ val wo mc ms := by
  intro sz
  refine Met.ofW (cc := cc) (maxL := maxL) (ret := ret) hy hw ?_
  intro p e s m args below meth c s₁ B hml' hv
  obtain ⟨rfl, hsz, hP, hK, hD0⟩ := hv
  have hl := lv_entry as (n := maxL) hml
  rw [lg_entry_eq]
  subst hsz
  generalize (lg_sl as ++ List.replicate (maxL - (lg_sl as).length) Slot.unset).toArray = ls at hl ⊢
  refine body p e s m below meth c (va_A ws s.heap.size) ls _ ⟨B.exec, B.bytes, hml', findClass_of_methodNamed B.named, atoms_spec (ws := wl) B.pre⟩ (name_of_methodNamed B.named B.method).1 hK hP hD0.self va_S.rf (fun q h => Or.inr h) hl ?_
  intro u H locs g hu hP hD hS k
  exact k _ _ (fun t ht hW => ⟨⟨u, hu, rfl, by rw [ht]; exact hP, va_K.moved hW.alike hK, hD⟩, hS.F ht⟩) hS.2.2 B.returns B.notSynchronized
theorem CE_int {rt : FieldType} {r : U → Int32} (hy : plainName y.cls = true) (hw : wl = Cond.code y cc maxL (some rt) :: ws') (hml : (lg_sl as).length ≤ maxL) (hn : ∀ u, φ u → narrow rt (.int (r u)) = .int (r u))
    (body : ∀ (p : Program) (e : Env) (s : State) (m : MethodId) (below : List Frame) (meth : Method) (c : Code) (A : Nat → Prop) (ls : Array Slot) (Q : State → Prop),
      CallFix p m c cc maxL s as.toArray wl y.cls → va_K D vwCl ty s → va_P D vwCl ws s.heap → va_D A ws → va_S A s.heap s.heap [] → (∀ q, s.heap.size ≤ q → A q) → lv_has ls maxL (lv_args 0 as) →
      (∀ (u : U) (x : Int32) (H : Heap) (locs : List Loc) (pc : Nat) (ls : Array Slot), φ u → x = r u → va_P D vwCl (wo u) H → va_D A (wo u) → va_S A s.heap H locs → decode cc pc = .ok (.ireturn, 1) → W p l e rm s m as.toArray below meth c H locs mc ms Q (F0 m pc ls [.int x])) →
      W p l e rm s m as.toArray below meth c s.heap [] 0 0 Q (F0 m 0 ls [])) : CE l y wl rm D ty as ws φ (fun u => some (.int (r u))) wo mc ms := by
  refine CE_gen hy hw hml ?_
  intro p e s m below meth c A ls Q X hnm hK hP hD hS hA hl hend
  refine body p e s m below meth c A ls Q X hK hP hD hS hA hl ?_
  intro u x H locs pc ls hu hxr hP hD hS hdg
  subst hxr
  exact hend u H locs _ hu hP hD hS (fun Qc free hq hf hr hlk => W.zret (v := r u) X.1 X.2.1 hr (hn u hu) hq hf hdg hlk)
theorem CE_long {r : U → Int64} (hy : plainName y.cls = true) (hw : wl = Cond.code y cc maxL (some .long) :: ws') (hml : (lg_sl as).length ≤ maxL)
    (body : ∀ (p : Program) (e : Env) (s : State) (m : MethodId) (below : List Frame) (meth : Method) (c : Code) (A : Nat → Prop) (ls : Array Slot) (Q : State → Prop),
      CallFix p m c cc maxL s as.toArray wl y.cls → va_K D vwCl ty s → va_P D vwCl ws s.heap → va_D A ws → va_S A s.heap s.heap [] → (∀ q, s.heap.size ≤ q → A q) → lv_has ls maxL (lv_args 0 as) →
      (∀ (u : U) (x : Int64) (H : Heap) (locs : List Loc) (pc : Nat) (ls : Array Slot), φ u → x = r u → va_P D vwCl (wo u) H → va_D A (wo u) → va_S A s.heap H locs → decode cc pc = .ok (.lreturn, 1) → W p l e rm s m as.toArray below meth c H locs mc ms Q (F0 m pc ls [.long x])) →
      W p l e rm s m as.toArray below meth c s.heap [] 0 0 Q (F0 m 0 ls [])) : CE l y wl rm D ty as ws φ (fun u => some (.long (r u))) wo mc ms := by
  refine CE_gen hy hw hml ?_
  intro p e s m below meth c A ls Q X hnm hK hP hD hS hA hl hend
  refine body p e s m below meth c A ls Q X hK hP hD hS hA hl ?_
  intro u x H locs pc ls hu hxr hP hD hS hdg
  subst hxr
  exact hend u H locs _ hu hP hD hS (fun Qc free hq hf hr hlk => W.lret (v := r u) X.1 X.2.1 hr hq hf hdg hlk)
theorem CE_double {r : U → UInt64} (hy : plainName y.cls = true) (hw : wl = Cond.code y cc maxL (some .double) :: ws') (hml : (lg_sl as).length ≤ maxL)
    (body : ∀ (p : Program) (e : Env) (s : State) (m : MethodId) (below : List Frame) (meth : Method) (c : Code) (A : Nat → Prop) (ls : Array Slot) (Q : State → Prop),
      CallFix p m c cc maxL s as.toArray wl y.cls → va_K D vwCl ty s → va_P D vwCl ws s.heap → va_D A ws → va_S A s.heap s.heap [] → (∀ q, s.heap.size ≤ q → A q) → lv_has ls maxL (lv_args 0 as) →
      (∀ (u : U) (x : UInt64) (H : Heap) (locs : List Loc) (pc : Nat) (ls : Array Slot), φ u → x = r u → va_P D vwCl (wo u) H → va_D A (wo u) → va_S A s.heap H locs → decode cc pc = .ok (.dreturn, 1) → W p l e rm s m as.toArray below meth c H locs mc ms Q (F0 m pc ls [.double x])) →
      W p l e rm s m as.toArray below meth c s.heap [] 0 0 Q (F0 m 0 ls [])) : CE l y wl rm D ty as ws φ (fun u => some (.double (r u))) wo mc ms := by
  refine CE_gen hy hw hml ?_
  intro p e s m below meth c A ls Q X hnm hK hP hD hS hA hl hend
  refine body p e s m below meth c A ls Q X hK hP hD hS hA hl ?_
  intro u x H locs pc ls hu hxr hP hD hS hdg
  subst hxr
  exact hend u H locs _ hu hP hD hS (fun Qc free hq hf hr hlk => W.dret (v := r u) X.1 X.2.1 hr hq hf hdg hlk)
theorem CE_float {r : U → UInt32} (hy : plainName y.cls = true) (hw : wl = Cond.code y cc maxL (some .float) :: ws') (hml : (lg_sl as).length ≤ maxL)
    (body : ∀ (p : Program) (e : Env) (s : State) (m : MethodId) (below : List Frame) (meth : Method) (c : Code) (A : Nat → Prop) (ls : Array Slot) (Q : State → Prop),
      CallFix p m c cc maxL s as.toArray wl y.cls → va_K D vwCl ty s → va_P D vwCl ws s.heap → va_D A ws → va_S A s.heap s.heap [] → (∀ q, s.heap.size ≤ q → A q) → lv_has ls maxL (lv_args 0 as) →
      (∀ (u : U) (x : UInt32) (H : Heap) (locs : List Loc) (pc : Nat) (ls : Array Slot), φ u → x = r u → va_P D vwCl (wo u) H → va_D A (wo u) → va_S A s.heap H locs → decode cc pc = .ok (.freturn, 1) → W p l e rm s m as.toArray below meth c H locs mc ms Q (F0 m pc ls [.float x])) →
      W p l e rm s m as.toArray below meth c s.heap [] 0 0 Q (F0 m 0 ls [])) : CE l y wl rm D ty as ws φ (fun u => some (.float (r u))) wo mc ms := by
  refine CE_gen hy hw hml ?_
  intro p e s m below meth c A ls Q X hnm hK hP hD hS hA hl hend
  refine body p e s m below meth c A ls Q X hK hP hD hS hA hl ?_
  intro u x H locs pc ls hu hxr hP hD hS hdg
  subst hxr
  exact hend u H locs _ hu hP hD hS (fun Qc free hq hf hr hlk => W.fret (v := r u) X.1 X.2.1 hr hq hf hdg hlk)
theorem CE_void (hy : plainName y.cls = true) (hw : wl = Cond.code y cc maxL none :: ws') (hml : (lg_sl as).length ≤ maxL)
    (body : ∀ (p : Program) (e : Env) (s : State) (m : MethodId) (below : List Frame) (meth : Method) (c : Code) (A : Nat → Prop) (ls : Array Slot) (Q : State → Prop),
      CallFix p m c cc maxL s as.toArray wl y.cls → meth.name = y.name → va_K D vwCl ty s → va_P D vwCl ws s.heap → va_D A ws → va_S A s.heap s.heap [] → (∀ q, s.heap.size ≤ q → A q) → lv_has ls maxL (lv_args 0 as) →
      (∀ (u : U) (H : Heap) (locs : List Loc) (pc : Nat) (ls : Array Slot), φ u → va_P D vwCl (wo u) H → va_D A (wo u) → va_S A s.heap H locs → decode cc pc = .ok (.return_, 1) → W p l e rm s m as.toArray below meth c H locs mc ms Q (F0 m pc ls [])) →
      W p l e rm s m as.toArray below meth c s.heap [] 0 0 Q (F0 m 0 ls [])) : CE l y wl rm D ty as ws φ (fun _ => none) wo mc ms := by
  refine CE_gen hy hw hml ?_
  intro p e s m below meth c A ls Q X hnm hK hP hD hS hA hl hend
  refine body p e s m below meth c A ls Q X hnm hK hP hD hS hA hl ?_
  intro u H locs pc ls hu hP hD hS hdg
  exact hend u H locs _ hu hP hD hS (fun Qc free hq hf hr hlk => W.vret X.1 X.2.1 hr hq hf hdg hlk)
end BODYE
section FRAME
variable {l : Launch} {y : MethodName} {wl : List Cond} {rm : Room} {D : va_G} {ty : TY} {as : List Value} {mc ms : Nat} {U : Type} {φ : U → Prop} {val : U → Option Value}
theorem C0_E {ws wo : va_W} {v : Option Value} (h : C0 l y wl rm D ty as ws v wo mc ms) : CE (U := Unit) l y wl rm D ty as ws (fun _ => True) (fun _ => v) (fun _ => wo) mc ms := fun sz =>
  (h sz).mono (fun _ _ k => k) (fun _ _ _ _ _ k => k) (fun a st o t _ ⟨⟨⟨e1, e2⟩, hF⟩, L⟩ => ⟨⟨⟨(), trivial, e1, e2⟩, hF⟩, L⟩)
/-- another telling of the end -/
theorem CE_imp {ws : va_W} {wo : U → va_W} {U' : Type} {φ' : U' → Prop} {val' : U' → Option Value} {wo' : U' → va_W} (h : CE l y wl rm D ty as ws φ val wo mc ms) (f : ∀ u, φ u → ∃ u', φ' u' ∧ val u = val' u' ∧ wo u = wo' u') : CE l y wl rm D ty as ws φ' val' wo' mc ms := fun sz =>
  (h sz).mono (fun _ _ k => k) (fun _ _ _ _ _ k => k) (fun a st o t _ ⟨⟨⟨u, hu, e1, e2⟩, hF⟩, L⟩ => by
    obtain ⟨u', h1, h2, h3⟩ := f u hu
    exact ⟨⟨⟨u', h1, by rw [e1, h2], by rw [← h3]; exact e2⟩, hF⟩, L⟩)
theorem va_A_sub {Ws Wc : List va_W} {is : List Nat} (hC : is.map (fun i => Ws[i]?) = Wc.map some) {sz q : Nat} (h : va_A Wc.flatten sz q) : va_A Ws.flatten sz q := by
  rcases A_mem h with ⟨e, h⟩ | h
  · obtain ⟨w, hw, hqw⟩ := List.mem_flatten.mp h
    obtain ⟨j, hj⟩ := List.getElem?_of_mem hw
    obtain ⟨i, -, hi⟩ := pick_at hC hj
    obtain ⟨k, hk⟩ := List.getElem?_of_mem (List.mem_flatten.mpr ⟨w, List.mem_of_getElem? hi, hqw⟩)
    exact Or.inl ⟨k, e, hk⟩
  · exact Or.inr h
/-- THE FRAME: a contract over some parts is one over more of them, in any order -/
theorem CE_frame {Ws Wc : List va_W} {Wo : U → List va_W} (h : CE l y wl rm D ty as Wc.flatten φ val (fun u => (Wo u).flatten) mc ms) (is : List Nat) (hC : is.map (fun i => Ws[i]?) = Wc.map some) (hnd : va_nd is = true) (hlen : ∀ u, is.length = (Wo u).length) (hfa : ∀ u, mpA (Wo u) = mpB Wc) :
    CE l y wl rm D ty as Ws.flatten φ val (fun u => (stA Ws (is.zip (Wo u))).flatten) mc ms := fun sz =>
  (h sz).mono (fun a st ⟨e1, e2, hP, hK, hD⟩ => ⟨e1, e2, P_subF hP is hC, hK, (D_subF hD is hnd hC).weaken (fun _ _ _ _ => trivial)⟩) (fun _ _ _ _ _ k => k)
    (fun a st o t ⟨_, e2, hP, hK, hD⟩ ⟨⟨⟨u, hu, e3, hP1, hK1, hD1⟩, hz, hk⟩, L, hL, hf⟩ => by
      subst e2
      refine ⟨⟨⟨u, hu, e3, ?_, hK1, D_mergeF hD.self is hC (hfa u)⟩, hz, fun q h1 h2 => hk q h1 (fun h3 => h2 (va_A_sub hC h3))⟩, L, hL, fun q hq => va_A_sub hC (hf q hq)⟩
      exact P_mergeF hP hD is hC (hlen u) hk hP1)
/-- the end's parts in another order -/
theorem CE_perm {ws : va_W} {Wo Wn : U → List va_W} (h : CE l y wl rm D ty as ws φ val (fun u => (Wo u).flatten) mc ms) (is : List Nat) (hC : ∀ u, is.map (fun i => (Wo u)[i]?) = (Wn u).map some) (hnd : va_nd is = true) : CE l y wl rm D ty as ws φ val (fun u => (Wn u).flatten) mc ms := fun sz =>
  (h sz).mono (fun _ _ k => k) (fun _ _ _ _ _ k => k) (fun a st o t _ ⟨⟨⟨u, hu, e3, hP1, hK1, hD1⟩, hF⟩, L⟩ => ⟨⟨⟨u, hu, e3, P_subF hP1 is (hC u), hK1, D_subF hD1 is hnd (hC u)⟩, hF⟩, L⟩)
end FRAME

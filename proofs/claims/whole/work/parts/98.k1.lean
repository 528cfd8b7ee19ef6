/-! methods with a table of their own, that end by a return whatever they catch; the array of one long; the frame of a throw -/
abbrev arJ (cJ : ClassId) (a : Nat) (w : Int64) : va_W := [(a, .inl (cJ, 1, .inr (.inl (fun _ => w))))]
theorem cellL_cg {cA : ClassId} {n : Nat} {f g : Nat → Int64} (h : ∀ j, j < n → f j = g j) : vp_cell cA (n, .inr (.inl f)) = vp_cell cA (n, .inr (.inl g)) := by
  have e : (fun j : Fin n => Value.long (f j.val)) = fun j : Fin n => Value.long (g j.val) := funext fun j => by rw [h j.val j.isLt]
  show arrV cA n (fun j => Value.long (f j)) = arrV cA n (fun j => Value.long (g j))
  unfold arrV
  rw [e]
theorem PD_cgL {D : va_G} {cl : List vw_C} {A : Nat → Prop} {ws : va_W} {H : Heap} (hP : va_P D cl ws H) (hD : va_D A ws) (q0 : Nat) {a : Nat} {cA : ClassId} {n : Nat} {f : Nat → Int64} (g : Nat → Int64) (he : ws[q0]? = some (a, .inl (cA, n, .inr (.inl f)))) (h : ∀ j, j < n → f j = g j) {wn : va_W} (hn : ws.set q0 (a, .inl (cA, n, .inr (.inl g))) = wn) : va_P D cl wn H ∧ va_D A wn := by
  subst hn
  refine ⟨va_P.set hP hD he ?_ (fun _ _ => rfl), hD.set he⟩
  have h1 : H[a]? = some (vp_cell cA (n, .inr (.inl f))) := hP q0 _ he
  show H[a]? = some (vp_cell cA (n, .inr (.inl g)))
  rw [← cellL_cg h]
  exact h1
theorem flat1 {α : Type} (x : List α) : List.flatten [x] = x := by simp
theorem Met_ofWH {l : Launch} {y : MethodName} {ws ws' : List Cond} {rm : Room} {Pc : Array Value → State → Prop} {Qc : Array Value → State → Outcome → State → Prop} {mc ms : Nat} {free : Addr → Prop} {cc : ByteArray} {maxL : Nat} {ret : Option FieldType} {hh : List (Nat × Nat × Nat × Nat)}
    (hy : plainName y.cls = true) (hw : ws = Cond.codeWith y cc maxL ret hh :: ws')
    (body : ∀ p e s m args below meth c s₁, BodyLoose p l y (headSpec ws rm) cc maxL ret e s m args below meth c s₁ → c.maxLocals = maxL → Pc args s →
      W p l e (headSpec ws rm).room s m args below meth c s.heap [] 0 0 (MQ below Qc args s mc ms free) (entryFrame m args maxL)) : Met l y ws rm Pc Qc mc ms free := by
  refine MetFree.of_bodyS (code := cc) (maxLocals := maxL) (ret := ret) hy ?_ ?_
  · intro args s m h hn
    obtain ⟨m9, meth, c, hn9, h1, h2, h3, h4, -, h5, h6, -⟩ := Cond.codeWith_spec (atoms_spec (ws := ws) h _ (by rw [hw]; exact List.mem_cons_self))
    cases hn.symm.trans hn9
    exact ⟨meth, c, h1, h2, h3, h4, h5, h6⟩
  · intro p e s m args below meth c s₁ B hml hP _
    have hh0 : s₁.heap = s.heap := by rw [B.state]; rfl
    obtain ⟨t, a1, o, b1, b2, b3, b4⟩ := body p e s m args below meth c s₁ B hml hP s₁ hh0 (Stand.of_body B)
    exact ⟨t, o, a1, b1, b2, b3, b4⟩
/-- as CE, of a method that needs what a throw needs -/
def CH {U : Type} (l : Launch) (y : MethodName) (wl : List Cond) (rm : Room) (D : va_G) (ty : TY) (as : List Value) (ws : va_W) (φ : U → Prop) (val : U → Option Value) (wo : U → va_W) (mc ms : Nat) : Prop :=
  ∀ sz, Met l y wl rm (va_Pc as (fun S => Wd D ty sz ws S ∧ ZX (va_A ws sz) S)) (QoE D ty sz ws φ val wo) mc ms (va_A ws sz)
section BODYH
variable {l : Launch} {y : MethodName} {wl ws' : List Cond} {rm : Room} {D : va_G} {ty : TY} {as : List Value} {ws : va_W} {mc ms : Nat} {cc : ByteArray} {maxL : Nat} {U : Type} {φ : U → Prop} {wo : U → va_W} {hh : List (Nat × Nat × Nat × Nat)}
theorem CH_int {rt : FieldType} {r : U → Int32} (hy : plainName y.cls = true) (hw : wl = Cond.codeWith y cc maxL (some rt) hh :: ws') (hml : (lg_sl as).length ≤ maxL) (hn : ∀ u, φ u → narrow rt (.int (r u)) = .int (r u))
    (body : ∀ (p : Program) (e : Env) (s : State) (m : MethodId) (below : List Frame) (meth : Method) (c : Code) (A : Nat → Prop) (ls : Array Slot) (Q : State → Prop),
      CallFix p m c cc maxL s as.toArray wl y.cls → va_K D vwCl ty s → va_P D vwCl ws s.heap → va_D A ws → va_S A s.heap s.heap [] → (∀ q, s.heap.size ≤ q → A q) → lv_has ls maxL (lv_args 0 as) → ZX A s → c.exceptionTable.toList = tableOf hh →
      (∀ (u : U) (x : Int32) (H : Heap) (locs : List Loc) (pc : Nat) (ls : Array Slot), φ u → x = r u → va_P D vwCl (wo u) H → va_D A (wo u) → va_S A s.heap H locs → decode cc pc = .ok (.ireturn, 1) → W p l e rm s m as.toArray below meth c H locs mc ms Q (F0 m pc ls [.int x])) →
      W p l e rm s m as.toArray below meth c s.heap [] 0 0 Q (F0 m 0 ls [])) : CH l y wl rm D ty as ws φ (fun u => some (.int (r u))) wo mc ms := by
  intro sz
  refine Met_ofWH (cc := cc) (maxL := maxL) (ret := some rt) hy hw ?_
  intro p e s m args below meth c s₁ B hml' hv
  obtain ⟨rfl, ⟨hsz, hP, hK, hD0⟩, hZ⟩ := hv
  have hl := lv_entry as (n := maxL) hml
  rw [lg_entry_eq]
  subst hsz
  generalize (lg_sl as ++ List.replicate (maxL - (lg_sl as).length) Slot.unset).toArray = ls at hl ⊢
  refine body p e s m below meth c (va_A ws s.heap.size) ls _ ⟨B.exec, B.bytes, hml', findClass_of_methodNamed B.named, atoms_spec (ws := wl) B.pre⟩ hK hP hD0.self va_S.rf (fun q h => Or.inr h) hl hZ (vx_table (x := y) B (atoms_spec (ws := wl) B.pre _ (by rw [hw]; exact List.mem_cons_self))) ?_
  intro u x H locs pc ls hu hxr hP hD hS hdg
  subst hxr
  exact W.zret (v := r u) B.exec B.bytes B.returns (hn u hu) (fun t ht hW => ⟨⟨u, hu, rfl, by rw [ht]; exact hP, va_K.moved hW.alike hK, hD⟩, hS.F ht⟩) hS.2.2 hdg B.notSynchronized
theorem CH_imp {val : U → Option Value} {U' : Type} {φ' : U' → Prop} {val' : U' → Option Value} {wo' : U' → va_W} (h : CH l y wl rm D ty as ws φ val wo mc ms) (f : ∀ u, φ u → ∃ u', φ' u' ∧ val u = val' u' ∧ wo u = wo' u') : CH l y wl rm D ty as ws φ' val' wo' mc ms := fun sz =>
  (h sz).mono (fun _ _ k => k) (fun _ _ _ _ _ k => k) (fun a st o t _ ⟨⟨⟨u, hu, e1, e2⟩, hF⟩, L⟩ => by
    obtain ⟨u', h1, h2, h3⟩ := f u hu
    exact ⟨⟨⟨u', h1, by rw [e1, h2], by rw [← h3]; exact e2⟩, hF⟩, L⟩)
/-- a throw's contract over some parts is one over more of them -/
theorem CT_frame {Ws Wc : List va_W} {E0 : String} (h : CT l y wl rm D ty as Wc.flatten E0) (is : List Nat) (hC : is.map (fun i => Ws[i]?) = Wc.map some) (hnd : va_nd is = true) : CT l y wl rm D ty as Ws.flatten E0 := fun sz =>
  (h sz).mono (fun a st ⟨e1, ⟨e2, hP, hK, hD⟩, hZ⟩ => ⟨e1, ⟨e2, P_subF hP is hC, hK, (D_subF hD is hnd hC).weaken (fun _ _ _ _ => trivial)⟩, ZX.go hZ (State.WarmedH.refl st) rfl (fun _ _ _ => rfl) (fun q hq => va_A_sub hC hq)⟩) (fun _ _ _ _ _ k => k)
    (fun a st o t ⟨_, ⟨e2, hP, hK, hD⟩, hZ⟩ hq => by
      subst e2
      rcases hq with ⟨hq, -⟩ | ⟨q, ho, E, ce, L, ⟨u, -, ⟨rfl, hP1, hK1, hD1⟩, hz, hk⟩, h1, h2, h3, h4, h5, h6⟩
      · exact hq.elim
      · refine Or.inr ⟨q, ho, E, ce, L, ⟨u, trivial, ⟨rfl, ?_, hK1, hD.self⟩, hz, fun q h1 h2 => hk q h1 (fun h3 => h2 (va_A_sub hC h3))⟩, h1, h2, h3, h4, h5, fun z hz => va_A_sub hC (h6 z hz)⟩
        have hl9 : is.length = Wc.length := by
          have := congrArg List.length hC
          rwa [List.length_map, List.length_map] at this
        have h9 := P_mergeF hP hD is hC hl9 hk hP1
        rw [stA_id _ _ (fun x hx => ?_)] at h9
        · exact h9
        · obtain ⟨j, hj⟩ := List.getElem?_of_mem hx
          obtain ⟨h5, h6⟩ := List.getElem?_zip_eq_some.mp hj
          obtain ⟨i, h7, h8⟩ := pick_at hC h6
          cases h5.symm.trans h7
          exact h8)
end BODYH
section CALLH
variable {p : Program} {l : Launch} {e : Env} {R : Room} {s : State} {m : MethodId} {args : Array Value} {below : List Frame} {meth : Method} {c : Code} {H : Heap} {locs : List Loc} {cells slots : Nat} {Q : State → Prop}
variable {cc bytes : ByteArray} {pc : Nat} {ls : Array Slot} {rest st0 As : List Value} {D : va_G} {A : Nat → Prop} {a b : Nat} {ty : TY} {Ws Wc : List va_W} {ws : va_W} {H0 : Heap} {nL maxL mc ms n index : Nat} {Ts wl : List Cond} {own C : String} {y : MethodName} {ret : Option FieldType} {rm : Room} {U : Type} {φ : U → Prop} {val : U → Option Value} {Wo Wn : U → List va_W} {hh : List (Nat × Nat × Nat × Nat)} {cl : List vw_C} {tys : List (ClassId × FieldType)}
theorem kcallSH (X : CallFix p m c cc nL s args Ts own) (hZ : ZX A s) (hc : CH l y wl rm D ty As Wc.flatten φ val (fun u => (Wo u).flatten) mc ms) (cw : vx_CSW R s args own index y bytes maxL ret hh wl rm mc ms n)
    (hK : va_K D vwCl ty s) (hP : va_P D vwCl Ws.flatten H) (hD : va_D A Ws.flatten) (hS : va_S A s.heap H locs) (hA : ∀ q, s.heap.size ≤ q → A q)
    (is : List Nat) (hC : is.map (fun i => Ws[i]?) = Wc.map some) (hnd : va_nd is = true) (hlen : ∀ u, is.length = (Wo u).length) (hwn : ∀ u, stA Ws (is.zip (Wo u)) = Wn u) (hfa : ∀ u, mpA (Wo u) = mpB Wc)
    (hn : As.length = n) (hsz : ls.size = nL) (hst : st0 = As.reverse ++ rest) (hW : (rest.map fun v => v.category).sum ≤ 8) (hdg : decode cc pc = .ok (.invokestatic index, 3)) (hf : cells + mc ≤ R.cells ∧ slots + ms ≤ R.slots)
    (kk : ∀ (u : U) (H1 : Heap) (locs1 : List Loc), φ u → va_P D vwCl (Wn u).flatten H1 → va_D A (Wn u).flatten → va_S A s.heap H1 locs1 → W p l e R s m args below meth c H1 locs1 (cells + mc) (slots + ms) Q (F0 m (pc + 3) ls ((val u).toList ++ rest))) : W p l e R s m args below meth c H locs cells slots Q (F0 m pc ls st0) :=
  call_genE (vx_runSW (As := As) (rest := rest) X (hc H.size) cw ⟨Wx_blind D ty H.size Wc.flatten _, fun U hU hW => ⟨rfl, ⟨by rw [hU], by rw [hU]; exact P_subF hP is hC, va_K.moved hW.alike hK, (D_subF hD is hnd hC).weaken (fun _ _ _ _ => trivial)⟩, hZ.go hW hU hS.2.1 (freeF (Wc := Wc) hD hS hA is hC)⟩⟩ rfl hn hsz hst (lv_room hW) hdg hf) hP hD hS hA is hC hlen hwn hfa kk
theorem r_last (hx : p.tables.exec = Jvm.exec) (hb : c.code = cc) (hK : va_K D cl tys s) (hP : va_P D cl ws H) (hD : va_D A ws) (hS : va_S A H0 H locs) (q0 t0 : Nat) {cA : ClassId} {w x : Int64} {wn : va_W} (ha : ws[q0]? = some (a, .inl (cA, 1, .inr (.inl (fun _ => w))))) (ht : tys[t0]? = some (cA, .long)) (hw : ws.set q0 (a, .inl (cA, 1, .inr (.inl (fun _ => x)))) = wn) (hdg : decode cc pc = .ok (.lastore, 1))
    (kk : ∀ (H1 : Heap) (locs1 : List Loc), va_P D cl wn H1 → va_D A wn → va_S A H0 H1 locs1 → W p l e R s m args below meth c H1 locs1 cells slots Q (F0 m (pc + 1) ls rest)) : W p l e R s m args below meth c H locs cells slots Q (F0 m pc ls (.long x :: .int 0 :: .ref a :: rest)) := by
  have hq := (List.getElem?_eq_some_iff.mp ha).1
  refine va_last hx hb hK hP hD hS q0 t0 ha ht (vp_in_nI (n := 0) (N := 1) (by omega) (by omega)) hdg (fun H1 locs1 hP1 hD1 hS1 => ?_)
  obtain ⟨h1, h2⟩ := PD_cgL (wn := wn) hP1 hD1 q0 (fun _ => x) (List.getElem?_set_self hq) (fun j hj => by
    have h3 : j = (0 : Int32).toNatClampNeg := by
      rw [show (0 : Int32).toNatClampNeg = 0 from rfl]
      omega
    exact if_pos h3) (by rw [List.set_set]; exact hw)
  exact kk H1 locs1 h1 h2 hS1
end CALLH

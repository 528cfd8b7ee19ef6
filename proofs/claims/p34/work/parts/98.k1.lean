/-! methods with a table of their own, that end by a return whatever they catch; the array of one long; the frame of a throw -/
abbrev arJ (cJ : ClassId) (a : Nat) (w : Int64) : va_W := [(a, .inl (cJ, 1, .inr (.inl (fun _ => w))))]
theorem cellL_cg {cA : ClassId} {n : Nat} {f g : Nat → Int64} (h : ∀ j, j < n → f j = g j) : vp_cell cA (n, .inr (.inl f)) = vp_cell cA (n, .inr (.inl g)) := by
  have e : (fun j : Fin n => Value.long (f j.val)) = fun j : Fin n => Value.long (g j.val) := funext fun j => by rw [h j.val j.isLt]
  show arrV cA n (fun j => Value.long (f j)) = arrV cA n (fun j => Value.long (g j))
  unfold arrV
  rw [e]
theorem PD_cgL {D : va_G} {cl : List vw_C} {A : Nat → Prop} {ws : va_W} {H : Heap} (hP : va_P D cl ws H) (hD : va_D A ws) (q0 : Nat) {a : Nat} {cA : ClassId} {n : Nat} {f : Nat → Int64} (g : Nat → Int64) (he : ws[q0]? = some (a, .inl (cA, n, .inr (.inl f)))) (h : ∀ j, j < n → f j = g j) {wn : va_W} (hn : ws.set q0 (a, .inl (cA, n, .inr (.inl g))) = wn) : va_P D cl wn H ∧ va_D A wn := by
  subst hn
  refine ⟨va_P.set hP hD he ?_ (fun _ _ => rfl), hD.set he⟩
  have h1 : H[a]? = some (vp_cell cA (n, .inr (.inl f))) := hP q0 _ he
  show H[a]? = some (vp_cell cA (n, .inr (.inl g)))
  rw [← cellL_cg h]
  exact h1
theorem flat1 {α : Type} (x : List α) : List.flatten [x] = x := by simp
theorem Met_ofWH {l : Launch} {y : MethodName} {ws ws' : List Cond} {rm : Room} {Pc : Array Value → State → Prop} {Qc : Array Value → State → Outcome → State → Prop} {mc ms : Nat} {free : Addr → Prop} {cc : ByteArray} {maxL : Nat} {ret : Option FieldType} {hh : List (Nat × Nat × Nat × Nat)}
    (hy : plainName y.cls = true) (hw : ws = Cond.codeWith y cc maxL ret hh :: ws')
    (body : ∀ p e s m args below meth c s₁, BodyLoose p l y (headSpec ws rm) cc maxL ret e s m args below meth c s₁ → c.maxLocals = maxL → Pc args s →
      W p l e (headSpec ws rm).room s m args below meth c s.heap [] 0 0 (MQ below Qc args s mc ms free) (entryFrame m args maxL)) : Met l y ws rm Pc Qc mc ms free := by
  refine MetFree.of_bodyS (code := cc) (maxLocals := maxL) (ret := ret) hy ?_ ?_
  · intro args s m h hn
    obtain ⟨m9, meth, c, hn9, h1, h2, h3, h4, -, h5, h6, -⟩ := Cond.codeWith_spec (atoms_spec (ws := ws) h _ (by rw [hw]; exact List.mem_cons_self))
    cases hn.symm.trans hn9
    exact ⟨meth, c, h1, h2, h3, h4, h5, h6⟩
  · intro p e s m args below meth c s₁ B hml hP _
    have hh0 : s₁.heap = s.heap := by rw [B.state]; rfl
    obtain ⟨t, a1, o, b1, b2, b3, b4⟩ := body p e s m args below meth c s₁ B hml hP s₁ hh0 (Stand.of_body B)
    exact ⟨t, o, a1, b1, b2, b3, b4⟩
section BODYH
variable {l : Launch} {y : MethodName} {wl ws' : List Cond} {rm : Room} {D : va_G} {ty : TY} {as : List Value} {ws : va_W} {mc ms : Nat} {cc : ByteArray} {maxL : Nat} {U : Type} {φ : U → Prop} {wo : U → va_W} {hh : List (Nat × Nat × Nat × Nat)}
end BODYH
section CALLH
variable {p : Program} {l : Launch} {e : Env} {R : Room} {s : State} {m : MethodId} {args : Array Value} {below : List Frame} {meth : Method} {c : Code} {H : Heap} {locs : List Loc} {cells slots : Nat} {Q : State → Prop}
variable {cc bytes : ByteArray} {pc : Nat} {ls : Array Slot} {rest st0 As : List Value} {D : va_G} {A : Nat → Prop} {a b : Nat} {ty : TY} {Ws Wc : List va_W} {ws : va_W} {H0 : Heap} {nL maxL mc ms n index : Nat} {Ts wl : List Cond} {own C : String} {y : MethodName} {ret : Option FieldType} {rm : Room} {U : Type} {φ : U → Prop} {val : U → Option Value} {Wo Wn : U → List va_W} {hh : List (Nat × Nat × Nat × Nat)} {cl : List vw_C} {tys : List (ClassId × FieldType)}
theorem r_last (hx : p.tables.exec = Jvm.exec) (hb : c.code = cc) (hK : va_K D cl tys s) (hP : va_P D cl ws H) (hD : va_D A ws) (hS : va_S A H0 H locs) (q0 t0 : Nat) {cA : ClassId} {w x : Int64} {wn : va_W} (ha : ws[q0]? = some (a, .inl (cA, 1, .inr (.inl (fun _ => w))))) (ht : tys[t0]? = some (cA, .long)) (hw : ws.set q0 (a, .inl (cA, 1, .inr (.inl (fun _ => x)))) = wn) (hdg : decode cc pc = .ok (.lastore, 1))
    (kk : ∀ (H1 : Heap) (locs1 : List Loc), va_P D cl wn H1 → va_D A wn → va_S A H0 H1 locs1 → W p l e R s m args below meth c H1 locs1 cells slots Q (F0 m (pc + 1) ls rest)) : W p l e R s m args below meth c H locs cells slots Q (F0 m pc ls (.long x :: .int 0 :: .ref a :: rest)) := by
  have hq := (List.getElem?_eq_some_iff.mp ha).1
  refine va_last hx hb hK hP hD hS q0 t0 ha ht (vp_in_nI (n := 0) (N := 1) (by omega) (by omega)) hdg (fun H1 locs1 hP1 hD1 hS1 => ?_)
  obtain ⟨h1, h2⟩ := PD_cgL (wn := wn) hP1 hD1 q0 (fun _ => x) (List.getElem?_set_self hq) (fun j hj => by
    have h3 : j = (0 : Int32).toNatClampNeg := by
      rw [show (0 : Int32).toNatClampNeg = 0 from rfl]
      omega
    exact if_pos h3) (by rw [List.set_set]; exact hw)
  exact kk H1 locs1 h1 h2 hS1
end CALLH

/-! contracts that need the links inside the nest as well -/
def ZN (U : State) : Prop := va_Nw (.methodLinkNest RX4 20 yX3_init RX6) U ∧ va_Nw (.methodLinkNest RX2 21 yX4_init RX6) U ∧ va_Nw (.methodLinkNest RX6 11 yX4_init RX6) U ∧ va_Nw (.methodLinkNest RX6 32 yX5_init RX6) U ∧ va_Nw (.methodLinkNest RX6 46 yX1_init RX6) U ∧ va_AO RX4 U
theorem ZN.warm {s U : State} (hW : s.WarmedH U.vm) (h : ZN s) : ZN U := ⟨va_Nw.warmM hW h.1, va_Nw.warmM hW h.2.1, va_Nw.warmM hW h.2.2.1, va_Nw.warmM hW h.2.2.2.1, va_Nw.warmM hW h.2.2.2.2.1, va_AO.moved hW.alike h.2.2.2.2.2⟩
theorem ZN.same {s U : State} (hv : s.vm = U.vm) (h : ZN s) : ZN U := ⟨va_Nw.same rfl hv h.1, va_Nw.same rfl hv h.2.1, va_Nw.same rfl hv h.2.2.1, va_Nw.same rfl hv h.2.2.2.1, va_Nw.same rfl hv h.2.2.2.2.1, va_AO.moved (by rw [hv]; exact Vm.Alike.refl _) h.2.2.2.2.2⟩
def CZ {U : Type} (l : Launch) (y : MethodName) (wl : List Cond) (rm : Room) (D : va_G) (ty : TY) (as : List Value) (ws : va_W) (φ : U → Prop) (val : U → Option Value) (wo : U → va_W) (mc ms : Nat) : Prop :=
  ∀ sz, Met l y wl rm (va_Pc as (fun S => Wd D ty sz ws S ∧ ZN S)) (QoE D ty sz ws φ val wo) mc ms (va_A ws sz)
theorem Wz_blind (D : va_G) (ty : TY) (sz : Nat) (ws : va_W) (as : List Value) : FrameBlind (va_Pc as (fun S => Wd D ty sz ws S ∧ ZN S)) := fun a U g mk q => by
  obtain ⟨q0, ⟨q1, qP, qK, qD⟩, qZ⟩ := q
  exact ⟨q0, ⟨q1, qP, va_K.moved (u := U) (U := U.calling g mk a) (Vm.Alike.refl U.vm) qK, qD⟩, qZ.same rfl⟩
section BODYZ
variable {l : Launch} {y : MethodName} {wl ws' : List Cond} {rm : Room} {D : va_G} {ty : TY} {as : List Value} {ws : va_W} {mc ms : Nat} {cc : ByteArray} {maxL : Nat} {U : Type} {φ : U → Prop} {wo : U → va_W}
theorem CZ_void (hy : plainName y.cls = true) (hw : wl = Cond.code y cc maxL none :: ws') (hml : (lg_sl as).length ≤ maxL)
    (body : ∀ (p : Program) (e : Env) (s : State) (m : MethodId) (below : List Frame) (meth : Method) (c : Code) (A : Nat → Prop) (ls : Array Slot) (Q : State → Prop),
      CallFix p m c cc maxL s as.toArray wl y.cls → meth.name = y.name → ZN s → va_K D vwCl ty s → va_P D vwCl ws s.heap → va_D A ws → va_S A s.heap s.heap [] → (∀ q, s.heap.size ≤ q → A q) → lv_has ls maxL (lv_args 0 as) →
      (∀ (u : U) (H : Heap) (locs : List Loc) (pc : Nat) (ls : Array Slot), φ u → va_P D vwCl (wo u) H → va_D A (wo u) → va_S A s.heap H locs → decode cc pc = .ok (.return_, 1) → W p l e rm s m as.toArray below meth c H locs mc ms Q (F0 m pc ls [])) →
      W p l e rm s m as.toArray below meth c s.heap [] 0 0 Q (F0 m 0 ls [])) : CZ l y wl rm D ty as ws φ (fun _ => none) wo mc ms := by
  intro sz
  refine Met.ofW (cc := cc) (maxL := maxL) (ret := none) hy hw ?_
  intro p e s m args below meth c s₁ B hml' hv
  obtain ⟨rfl, ⟨hsz, hP, hK, hD0⟩, hZ⟩ := hv
  have hl := lv_entry as (n := maxL) hml
  rw [lg_entry_eq]
  subst hsz
  generalize (lg_sl as ++ List.replicate (maxL - (lg_sl as).length) Slot.unset).toArray = ls at hl ⊢
  refine body p e s m below meth c (va_A ws s.heap.size) ls _ ⟨B.exec, B.bytes, hml', findClass_of_methodNamed B.named, atoms_spec (ws := wl) B.pre⟩ (name_of_methodNamed B.named B.method).1 hZ hK hP hD0.self va_S.rf (fun q h => Or.inr h) hl ?_
  intro u H locs pc ls hu hP hD hS hdg
  exact W.vret B.exec B.bytes B.returns (fun t ht hW => ⟨⟨u, hu, rfl, by rw [ht]; exact hP, va_K.moved hW.alike hK, hD⟩, hS.F ht⟩) hS.2.2 hdg
end BODYZ
section MAKEZ
variable {p : Program} {l : Launch} {e : Env} {R : Room} {s : State} {m : MethodId} {args : Array Value} {below : List Frame} {meth : Method} {c : Code} {H : Heap} {locs : List Loc} {cells slots : Nat} {Q : State → Prop}
variable {cc bytes : ByteArray} {pc : Nat} {ls : Array Slot} {rest st0 As : List Value} {D : va_G} {A : Nat → Prop} {b : Nat} {ty : TY} {Wr : List va_W} {H0 : Heap} {nL maxL mc ms n index : Nat} {Ts wl : List Cond} {own : String} {y : MethodName} {rm : Room} {U : Type} {φ : U → Prop} {Wo : U → List va_W}
theorem kcallIZ (X : CallFix p m c cc nL s args Ts own) (hZ : ZN s) {host : String} {ci : Nat} {fs : List Value} (hc : CZ l y wl rm D ty (.ref b :: As) (List.flatten [obC b ci fs]) φ (fun _ => none) (fun u => (Wo u).flatten) mc ms) (cw : va_CN R s args own index y host bytes maxL none wl rm mc ms n ∧ y.name = "<init>" ∧ (Cond.instanceMethod y).before args s = true)
    (hK : va_K D vwCl ty s) (hP : va_P D vwCl (Wr ++ [obC b ci fs]).flatten H) (hD : va_D A (Wr ++ [obC b ci fs]).flatten) (hS : va_S A H0 H locs) (hA : ∀ q, H0.size ≤ q → A q)
    (hn : As.length = n) (hsz : ls.size = nL) (hst : st0 = As.reverse ++ .ref b :: rest) (hW : (rest.map fun v => v.category).sum ≤ 8) (hdg : decode cc pc = .ok (.invokespecial index, 3)) (hf : cells + mc ≤ R.cells ∧ slots + ms ≤ R.slots)
    (kk : ∀ (u : U) (H1 : Heap) (locs1 : List Loc), φ u → va_P D vwCl (Wr ++ Wo u).flatten H1 → va_D A (Wr ++ Wo u).flatten → va_S A H0 H1 locs1 → W p l e R s m args below meth c H1 locs1 (cells + mc) (slots + ms) Q (F0 m (pc + 3) ls rest)) : W p l e R s m args below meth c H locs cells slots Q (F0 m pc ls st0) :=
  call_genI (fun hPo hDo => va_runIN (As := As) (rest := rest) (b := b) X (hc H.size) cw ⟨Wz_blind D ty H.size (List.flatten [obC b ci fs]) _, fun U hU hW => ⟨rfl, ⟨by rw [hU], by rw [hU]; exact hPo, va_K.moved hW.alike hK, hDo⟩, hZ.warm hW⟩⟩ rfl hn hsz hst (lv_room hW) hdg hf) hP hD hS hA kk
end MAKEZ
section MAKEQ
variable {p : Program} {l : Launch} {e : Env} {R : Room} {s : State} {m : MethodId} {args : Array Value} {below : List Frame} {meth : Method} {c : Code} {H : Heap} {locs : List Loc} {cells slots : Nat} {Q : State → Prop}
variable {cc : ByteArray} {pc index : Nat} {ls : Array Slot} {rest : List Value} {D : va_G} {A : Nat → Prop} {Wr : List va_W} {H0 : Heap} {own : String} {cI cZ cS cJ : ClassId}
abbrev arQ (cS : ClassId) (q n : Nat) (f : Nat → Option Nat) : va_W := [(q, .inl (cS, n, .inr (.inr (.inr (.inr f)))))]
theorem r_newQ (hx : p.tables.exec = Jvm.exec) (hb : c.code = cc) (hown : s.vm.findClass own = some m.cls) (hcl : (Cond.classLink own index RX4).before args s = true) (hover : va_AO RX4 s) (hK : va_K D vwCl (tyL cI cZ cS cJ) s) (hP : va_P D vwCl Wr.flatten H) (hD : va_D A Wr.flatten) (hS : va_S A H0 H locs) (hA : ∀ q, H0.size ≤ q → A q)
    {n : Int32} {N : Nat} (hn : ¬ n < 0) (hN : n.toNatClampNeg = N) (hbytes : N * 4 ≤ 536870912) (hcells : cells + 1 ≤ R.cells) (hslots : slots + N ≤ R.slots) (hdg : decode cc pc = .ok (.anewarray index, 3))
    (kk : ∀ (q : Nat) (H1 : Heap), va_P D vwCl (Wr ++ [arQ cS q N (fun _ => none)]).flatten H1 → va_D A (Wr ++ [arQ cS q N (fun _ => none)]).flatten → va_S A H0 H1 locs → W p l e R s m args below meth c H1 locs (cells + 1) (slots + N) Q (F0 m (pc + 3) ls (.ref q :: rest))) : W p l e R s m args below meth c H locs cells slots Q (F0 m pc ls (.int n :: rest)) := by
  refine va_newq hx hb hown hcl hover hK hP hD hS hA hn hN hbytes hcells hslots hdg (fun q cA H1 hK1 hP1 hD1 hS1 => ?_)
  have h1 := (hK1.2 3 (cA, .object RX4) rfl).2
  have h2 := (hK.2 2 (cS, .object RX4) rfl).2
  obtain ⟨_, _, _, _, _, e1⟩ := h1
  obtain ⟨_, _, _, _, _, e2⟩ := h2
  have hc : cA = cS := Option.some.inj (e1.symm.trans e2)
  subst hc
  have ef : (Wr ++ [arQ cA q N (fun _ => none)]).flatten = Wr.flatten ++ [(q, .inl (cA, N, .inr (.inr (.inr (.inr (fun _ => none))))))] := by simp
  exact kk q H1 (by rw [ef]; exact hP1) (by rw [ef]; exact hD1) hS1
end MAKEQ

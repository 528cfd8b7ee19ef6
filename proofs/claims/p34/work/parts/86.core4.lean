/-! what a constructor makes -/
abbrev obC (a ci : Nat) (fs : List Value) : va_W := [(a, .inr (ci, fs))]
section MAKE
variable {p : Program} {l : Launch} {e : Env} {R : Room} {s : State} {m : MethodId} {args : Array Value} {below : List Frame} {meth : Method} {c : Code} {H : Heap} {locs : List Loc} {cells slots : Nat} {Q : State → Prop}
variable {cc : ByteArray} {pc : Nat} {ls : Array Slot} {rest : List Value} {D : va_G} {A : Nat → Prop} {Ws : List va_W} {H0 : Heap} {cI cZ cS cJ : ClassId}
theorem r_newG (hx : p.tables.exec = Jvm.exec) (hb : c.code = cc) {at0 : ArrayType} {cX : ClassId} {j : Nat} (harr : (Cond.arrayClass (newarray.typeOf at0)).before args s = true) (hK : va_K D vwCl (tyL cI cZ cS cJ) s) (hj : (tyL cI cZ cS cJ)[j]? = some (cX, newarray.typeOf at0)) (hRA : va_RA s cX (newarray.typeOf at0) → s.vm.findClass ("[" ++ (newarray.typeOf at0).toString) = some cX)
    (hP : va_P D vwCl Ws.flatten H) (hD : va_D A Ws.flatten) (hS : va_S A H0 H locs) (hA : ∀ q, H0.size ≤ q → A q)
    {n : Int32} {N : Nat} (a0 : vp_A) (ha : ∀ cA : ClassId, vp_cell cA a0 = arrV cA N (fun _ => defaultValue (newarray.typeOf at0))) (hn : ¬ n < 0) (hN : n.toNatClampNeg = N) (hbytes : N * componentBytes (newarray.typeOf at0) ≤ 536870912) (hcells : cells + 1 ≤ R.cells) (hslots : slots + N ≤ R.slots) (hdg : decode cc pc = .ok (.newarray at0, 2))
    (kk : ∀ (q : Nat) (H1 : Heap), va_P D vwCl (Ws ++ [([(q, .inl (cX, a0))] : va_W)]).flatten H1 → va_D A (Ws ++ [([(q, .inl (cX, a0))] : va_W)]).flatten → va_S A H0 H1 locs → W p l e R s m args below meth c H1 locs (cells + 1) (slots + N) Q (F0 m (pc + 2) ls (.ref q :: rest))) : W p l e R s m args below meth c H locs cells slots Q (F0 m pc ls (.int n :: rest)) := by
  refine va_newaK (atype := at0) hx hb harr rfl hdg rfl hn hN hbytes hcells hslots rfl fun H1 cA e1 z1 o1 hAr hNm => ?_
  have hc : cA = cX := Option.some.inj (hNm.symm.trans (hRA (hK.2 j _ hj).2))
  subst hc
  have hk : ∀ (k : Nat) (x : Nat × va_E), Ws.flatten[k]? = some x → H1[x.1]? = H[x.1]? := fun k x hx => o1 x.1 ((hP k x hx).lt)
  have ef : (Ws ++ [([(H.size, .inl (cA, a0))] : va_W)]).flatten = Ws.flatten ++ [(H.size, .inl (cA, a0))] := by simp
  refine kk H.size H1 ?_ ?_ ⟨Nat.le_trans hS.1 (by omega), fun x h1 h2 => (o1 x (Nat.lt_of_lt_of_le h1 hS.1)).trans (hS.2.1 x h1 h2), hS.2.2⟩
  · rw [ef]
    refine (hP.kept hk).app (fun k x hx => ?_)
    have hz : k < 1 := (List.getElem?_eq_some_iff.mp hx).1
    rw [show k = 0 by omega] at hx
    cases hx
    show H1[H.size]? = some (vp_cell cA a0)
    rw [ha]
    exact e1
  · rw [ef]
    exact hD.push hP rfl (hA _ hS.1)
theorem r_newI (hx : p.tables.exec = Jvm.exec) (hb : c.code = cc) (harr : (Cond.arrayClass .int).before args s = true) (hK : va_K D vwCl (tyL cI cZ cS cJ) s) (hP : va_P D vwCl Ws.flatten H) (hD : va_D A Ws.flatten) (hS : va_S A H0 H locs) (hA : ∀ q, H0.size ≤ q → A q)
    {n : Int32} {N : Nat} (hn : ¬ n < 0) (hN : n.toNatClampNeg = N) (hbytes : N * 4 ≤ 536870912) (hcells : cells + 1 ≤ R.cells) (hslots : slots + N ≤ R.slots) (hdg : decode cc pc = .ok (.newarray .int, 2))
    (kk : ∀ (q : Nat) (H1 : Heap), va_P D vwCl (Ws ++ [arC cI q N (fun _ => 0)]).flatten H1 → va_D A (Ws ++ [arC cI q N (fun _ => 0)]).flatten → va_S A H0 H1 locs → W p l e R s m args below meth c H1 locs (cells + 1) (slots + N) Q (F0 m (pc + 2) ls (.ref q :: rest))) : W p l e R s m args below meth c H locs cells slots Q (F0 m pc ls (.int n :: rest)) :=
  r_newG (at0 := .int) (cX := cI) (j := 0) hx hb harr hK rfl (fun h => h) hP hD hS hA (N, .inl (fun _ => 0)) (fun _ => rfl) hn hN hbytes hcells hslots hdg kk
theorem r_newZ (hx : p.tables.exec = Jvm.exec) (hb : c.code = cc) (harr : (Cond.arrayClass .boolean).before args s = true) (hK : va_K D vwCl (tyL cI cZ cS cJ) s) (hP : va_P D vwCl Ws.flatten H) (hD : va_D A Ws.flatten) (hS : va_S A H0 H locs) (hA : ∀ q, H0.size ≤ q → A q)
    {n : Int32} {N : Nat} (hn : ¬ n < 0) (hN : n.toNatClampNeg = N) (hbytes : N * 1 ≤ 536870912) (hcells : cells + 1 ≤ R.cells) (hslots : slots + N ≤ R.slots) (hdg : decode cc pc = .ok (.newarray .boolean, 2))
    (kk : ∀ (q : Nat) (H1 : Heap), va_P D vwCl (Ws ++ [arC cZ q N (fun _ => 0)]).flatten H1 → va_D A (Ws ++ [arC cZ q N (fun _ => 0)]).flatten → va_S A H0 H1 locs → W p l e R s m args below meth c H1 locs (cells + 1) (slots + N) Q (F0 m (pc + 2) ls (.ref q :: rest))) : W p l e R s m args below meth c H locs cells slots Q (F0 m pc ls (.int n :: rest)) :=
  r_newG (at0 := .boolean) (cX := cZ) (j := 1) hx hb harr hK rfl (fun h => h) hP hD hS hA (N, .inl (fun _ => 0)) (fun _ => rfl) hn hN hbytes hcells hslots hdg kk
end MAKE
/-- the beginning's matrix: 8 balloons of 60 gas, 4 bags, leak 1; ribbons of 100, bearing 150, tied -/
def init0 : Nat → Nat → Int32 := fun r i => if r = 0 then 60 else if r = 1 then 4 else if r = 2 then 1 else if r = 3 then 1 else if r = 4 then 100 else if r = 5 then 150 else if r = 12 then (if i = 6 then -1000 else if i = 7 then -1000 else 0) else 0
def init7 : Nat → Nat → Nat → Int32 := fun a r i => if a = 0 then init0 r i else 0

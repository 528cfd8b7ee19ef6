/-! the start: the class's world as it is made, what the loop has then -/
def cfn (c0 c1 c2 c3 c4 c5 : Nat → Nat) : Nat → Nat → Nat := fun i => if i = 0 then c0 else if i = 1 then c1 else if i = 2 then c2 else if i = 3 then c3 else if i = 4 then c4 else c5
abbrev fn0 (c0 c1 c2 c3 c4 c5 : Nat → Nat) : Nat → Option Nat := va_up (va_up (va_up (va_up (va_up (va_up (fun _ => none) 0 (some (c0 0))) 1 (some (c1 0))) 2 (some (c2 0))) 3 (some (c3 0))) 4 (some (c4 0))) 5 (some (c5 0))
theorem fn0_of (c0 c1 c2 c3 c4 c5 : Nat → Nat) : ∀ i, i < 6 → fn0 c0 c1 c2 c3 c4 c5 i = some (cfn c0 c1 c2 c3 c4 c5 i 0) := by
  intro i hi
  rcases (show i = 0 ∨ i = 1 ∨ i = 2 ∨ i = 3 ∨ i = 4 ∨ i = 5 by omega) with rfl | rfl | rfl | rfl | rfl | rfl <;> rfl
abbrev UI : Type := (Nat → Nat) × (Nat → Nat) × (Nat → Nat) × (Nat → Nat) × (Nat → Nat) × (Nat → Nat → Nat) × (Nat → Option Nat)
set_option maxHeartbeats 4000000 in
theorem k_init (l : Launch) (D : va_G) (cI cZ cS cJ : ClassId) (x0 : Nat) : CZ (U := UI) l yX6_init wsX6_init ({ frames := 6, cells := 142, slots := 1417, locals := 127 }) D (tyL cI cZ cS cJ) [.ref x0] (List.flatten [obC x0 6 [.null, .null, .int 0, .null, .null, .null, .null]]) (fun u => u.1 0 = x0 ∧ ∀ i, i < 6 → u.2.2.2.2.2.2 i = some (u.2.2.2.2.2.1 i 0)) (fun _ => none) (fun u => List.flatten [clP cI cZ cS u.1 u.2.1 u.2.2.1 u.2.2.2.1 u.2.2.2.2.1 0 u.2.2.2.2.2.1 u.2.2.2.2.2.2 0 (fun _ => begS) (fun _ => 0) 0 begS begS (fun _ => 0) (-1000)]) 142 1417 := fun sz =>
  ((c_X6_init l D cI cZ cS cJ x0) sz).mono (fun _ _ k => k) (fun _ _ _ _ _ k => k) (fun a st o t _ ⟨⟨⟨u, hu, e3, hP1, hK1, hD1⟩, hF⟩, L⟩ => by
    obtain ⟨a, d, q0, q1, c0, c1, c2, c3, c4, c5, t0, t1, k0, k1, k2, k3, k4, k5, k6, k7, f0, g0, g1, g2, g3, g4, g5, g6, g7, f1⟩ := u
    refine ⟨⟨⟨(adr [x0, q0, q1, t0, t1, f0, f1], adr [k0, k1, k2, k3, k4, k5, k6, k7], adr [g0, g1, g2, g3, g4, g5, g6, g7], a, d, cfn c0 c1 c2 c3 c4 c5, fn0 c0 c1 c2 c3 c4 c5), ⟨rfl, fn0_of _ _ _ _ _ _⟩, e3, ?_, hK1, ?_⟩, hF⟩, L⟩
    · show va_P D vwCl (List.flatten [clP _ _ _ _ _ _ _ _ _ _ _ _ _ _ _ _ _ _ _]) t.heap
      rw [flat1]
      exact P_subF (Wc := clF cI cZ cS (adr [x0, q0, q1, t0, t1, f0, f1]) (adr [k0, k1, k2, k3, k4, k5, k6, k7]) (adr [g0, g1, g2, g3, g4, g5, g6, g7]) a d 0 (cfn c0 c1 c2 c3 c4 c5) (fn0 c0 c1 c2 c3 c4 c5) 0 (fun _ => begS) (fun _ => 0) 0 begS begS (fun _ => 0) (-1000)) hP1 [0, 1, 2, 3, 4, 5, 6, 7, 8, 9, 10, 11, 12, 13, 14, 15, 16, 17, 18, 19, 20, 21, 22, 23, 24, 25, 26, 27, 28, 29, 30, 31, 32, 33, 34, 35, 36, 38, 37] rfl
    · show va_D _ (List.flatten [clP _ _ _ _ _ _ _ _ _ _ _ _ _ _ _ _ _ _ _])
      rw [flat1]
      exact D_subF (Wc := clF cI cZ cS (adr [x0, q0, q1, t0, t1, f0, f1]) (adr [k0, k1, k2, k3, k4, k5, k6, k7]) (adr [g0, g1, g2, g3, g4, g5, g6, g7]) a d 0 (cfn c0 c1 c2 c3 c4 c5) (fn0 c0 c1 c2 c3 c4 c5) 0 (fun _ => begS) (fun _ => 0) 0 begS begS (fun _ => 0) (-1000)) hD1 [0, 1, 2, 3, 4, 5, 6, 7, 8, 9, 10, 11, 12, 13, 14, 15, 16, 17, 18, 19, 20, 21, 22, 23, 24, 25, 26, 27, 28, 29, 30, 31, 32, 33, 34, 35, 36, 38, 37] (by decide +kernel) rfl)
def begB : Nat → Nat → Nat → Int32 := uA init7 0 begS
theorem enc_beg : enc init7 = enc begB := by
  have h := enc_6 init7 0 (ht init0)
  exact h.symm
theorem OK_beg : OK begS := by
  refine OK_of (y := 0) ?_ (mend_6 init0) rfl (by decide)
  refine ⟨fun j hj => ?_, fun r hr => ?_⟩
  · rcases (show j = 0 ∨ j = 1 ∨ j = 2 ∨ j = 3 ∨ j = 4 ∨ j = 5 ∨ j = 6 ∨ j = 7 by omega) with rfl | rfl | rfl | rfl | rfl | rfl | rfl | rfl <;> exact ⟨⟨by decide, by decide⟩, ⟨by decide, by decide⟩, ⟨by decide, by decide⟩⟩
  · rcases (show r = 0 ∨ r = 1 ∨ r = 2 ∨ r = 3 ∨ r = 4 ∨ r = 5 ∨ r = 6 by omega) with rfl | rfl | rfl | rfl | rfl | rfl | rfl <;> exact ⟨Or.inr (by decide), ⟨by decide, by decide⟩, ⟨by decide, by decide⟩⟩
theorem GD_beg : GD 0 begS := ⟨OK_beg, ⟨by decide, by decide⟩, by decide, by decide, by decide⟩
theorem IV_beg {c : Nat → Nat → Nat} {f : Nat → Option Nat} (h : ∀ i, i < 6 → f i = some (c i 0)) : IV 0 0 0 c f 0 (fun _ => begS) begB :=
  ⟨⟨by decide, by decide, h⟩, rfl, fun i hi => absurd hi (Nat.not_lt_zero _), GD_beg, fun i hi => absurd hi (Nat.not_lt_zero _), Or.inl rfl⟩
theorem arrI {args : Array Value} {s : State} (h : (Cond.arrayClass .int).before args s = true) : ∃ cA, ArrOfT s cA .int ∧ va_RA s cA .int := by
  obtain ⟨cA, k, comp, h1, h2, h3⟩ := Cond.arrayClass_spec (first := s) (o := none) (idx := []) h
  exact ⟨cA, fun n z => ⟨fun k h => (by cases h), k, h2, comp, h3⟩, h1⟩
theorem arrZ {args : Array Value} {s : State} (h : (Cond.arrayClass .boolean).before args s = true) : ∃ cA, ArrOfT s cA .boolean ∧ va_RA s cA .boolean := by
  obtain ⟨cA, k, comp, h1, h2, h3⟩ := Cond.arrayClass_spec (first := s) (o := none) (idx := []) h
  exact ⟨cA, fun n z => ⟨fun k h => (by cases h), k, h2, comp, h3⟩, h1⟩
theorem arrL {args : Array Value} {s : State} (h : (Cond.arrayClass .long).before args s = true) : ∃ cA, ArrOfT s cA .long ∧ va_RA s cA .long := by
  obtain ⟨cA, k, comp, h1, h2, h3⟩ := Cond.arrayClass_spec (first := s) (o := none) (idx := []) h
  exact ⟨cA, fun n z => ⟨fun k h => (by cases h), k, h2, comp, h3⟩, h1⟩
theorem arrO {args : Array Value} {s : State} {C : String} (h : (Cond.arrayOver (.object C)).before args s = true) : ∃ cA, ArrOfT s cA (.object C) ∧ va_RA s cA (.object C) := by
  obtain ⟨comp, cA, k, h1, h2, h3, h4, h5⟩ := Cond.arrayOver_spec (first := s) (o := none) (idx := []) h
  exact ⟨cA, fun n z => ⟨fun k h => (by cases h), k, h3, comp, h4⟩, k, comp, h3, h4, h1, h5⟩
theorem Kst {args : Array Value} {s : State} (hts : ∀ w ∈ wsL_law, w.before args s = true) (hov : (Cond.arrayOver (.object RX4)).before args s = true) (harrI : (Cond.arrayClass .int).before args s = true) (harrZ : (Cond.arrayClass .boolean).before args s = true) (harrJ : (Cond.arrayClass .long).before args s = true)
    (hu : ∀ (k : Nat) (q : vw_C), vwCl[k]? = some q → ∃ (cC : ClassId) (iS : Nat → Nat), u_Kn s q.1 q.2.1 q.2.2 cC iS) : ∃ (D : va_G) (cI cZ cS cJ : ClassId), va_K D vwCl (tyL cI cZ cS cJ) s := by
  obtain ⟨cI, i1, i2⟩ := arrI harrI
  obtain ⟨cZ, z1, z2⟩ := arrZ harrZ
  obtain ⟨cS, s1, s2⟩ := arrO hov
  obtain ⟨cJ, j1, j2⟩ := arrL harrJ
  have hu2 : ∀ k : Nat, ∃ (x : ClassId × (Nat → Nat)), ∀ q, vwCl[k]? = some q → u_Kn s q.1 q.2.1 q.2.2 x.1 x.2 := fun k => by
    cases hk : vwCl[k]? with
    | none => exact ⟨(cI, fun _ => 0), fun q h => by cases h⟩
    | some q =>
      obtain ⟨cC, iS, h⟩ := hu k q hk
      exact ⟨(cC, iS), fun q2 h2 => by cases h2; exact h⟩
  refine ⟨(fun k => (hu2 k).choose.1, fun k => (hu2 k).choose.2), cI, cZ, cS, cJ, fun k q hq => (hu2 k).choose_spec q hq, fun k q hq => ?_⟩
  have hk : k < 4 := (List.getElem?_eq_some_iff.mp hq).1
  rcases (show k = 0 ∨ k = 1 ∨ k = 2 ∨ k = 3 by omega) with rfl | rfl | rfl | rfl
  · cases hq; exact ⟨i1, i2⟩
  · cases hq; exact ⟨z1, z2⟩
  · cases hq; exact ⟨s1, s2⟩
  · cases hq; exact ⟨j1, j2⟩
section MAKEJ
variable {p : Program} {l : Launch} {e : Env} {R : Room} {s : State} {m : MethodId} {args : Array Value} {below : List Frame} {meth : Method} {c : Code} {H : Heap} {locs : List Loc} {cells slots : Nat} {Q : State → Prop}
variable {cc : ByteArray} {pc : Nat} {ls : Array Slot} {rest : List Value} {D : va_G} {A : Nat → Prop} {Ws : List va_W} {H0 : Heap} {cI cZ cS cJ : ClassId}
theorem r_newJ1 (hx : p.tables.exec = Jvm.exec) (hb : c.code = cc) (harr : (Cond.arrayClass .long).before args s = true) (hK : va_K D vwCl (tyL cI cZ cS cJ) s) (hP : va_P D vwCl Ws.flatten H) (hD : va_D A Ws.flatten) (hS : va_S A H0 H locs) (hA : ∀ q, H0.size ≤ q → A q)
    (hcells : cells + 1 ≤ R.cells) (hslots : slots + 1 ≤ R.slots) (hdg : decode cc pc = .ok (.newarray .long, 2))
    (kk : ∀ (q : Nat) (H1 : Heap), va_P D vwCl (Ws ++ [arJ cJ q 0]).flatten H1 → va_D A (Ws ++ [arJ cJ q 0]).flatten → va_S A H0 H1 locs → W p l e R s m args below meth c H1 locs (cells + 1) (slots + 1) Q (F0 m (pc + 2) ls (.ref q :: rest))) : W p l e R s m args below meth c H locs cells slots Q (F0 m pc ls (.int 1 :: rest)) :=
  r_newG (at0 := .long) (cX := cJ) (j := 3) hx hb harr hK rfl (fun h => h) hP hD hS hA (1, .inr (.inl (fun _ => 0))) (fun _ => rfl) (by decide) rfl (by decide) hcells hslots hdg kk
end MAKEJ

/-! the start: the class's world as it is made -/
def cfn (c0 c1 c2 c3 c4 c5 : Nat → Nat) : Nat → Nat → Nat := fun i => if i = 0 then c0 else if i = 1 then c1 else if i = 2 then c2 else if i = 3 then c3 else if i = 4 then c4 else c5
abbrev fn0 (c0 c1 c2 c3 c4 c5 : Nat → Nat) : Nat → Option Nat := va_up (va_up (va_up (va_up (va_up (va_up (fun _ => none) 0 (some (c0 0))) 1 (some (c1 0))) 2 (some (c2 0))) 3 (some (c3 0))) 4 (some (c4 0))) 5 (some (c5 0))
theorem fn0_of (c0 c1 c2 c3 c4 c5 : Nat → Nat) : ∀ i, i < 6 → fn0 c0 c1 c2 c3 c4 c5 i = some (cfn c0 c1 c2 c3 c4 c5 i 0) := by
  intro i hi
  rcases (show i = 0 ∨ i = 1 ∨ i = 2 ∨ i = 3 ∨ i = 4 ∨ i = 5 by omega) with rfl | rfl | rfl | rfl | rfl | rfl <;> rfl
abbrev UI : Type := (Nat → Nat) × (Nat → Nat) × (Nat → Nat) × (Nat → Nat) × (Nat → Nat) × (Nat → Nat → Nat) × (Nat → Option Nat)
set_option maxHeartbeats 4000000 in
theorem k_init (l : Launch) (D : va_G) (cI cZ cS cJ : ClassId) (x0 : Nat) : CZ (U := UI) l yX6_init wsX6_init ({ frames := 6, cells := 142, slots := 1417, locals := 127 }) D (tyL cI cZ cS cJ) [.ref x0] (List.flatten [obC x0 6 [.null, .null, .int 0, .null, .null, .null, .null]]) (fun u => u.1 0 = x0 ∧ ∀ i, i < 6 → u.2.2.2.2.2.2 i = some (u.2.2.2.2.2.1 i 0)) (fun _ => none) (fun u => List.flatten [clP cI cZ cS u.1 u.2.1 u.2.2.1 u.2.2.2.1 u.2.2.2.2.1 0 u.2.2.2.2.2.1 u.2.2.2.2.2.2 0 (fun _ => begS) (fun _ => 0) 0 begS begS (fun _ => 0) (-1000)]) 142 1417 := fun sz =>
  ((c_X6_init l D cI cZ cS cJ x0) sz).mono (fun _ _ k => k) (fun _ _ _ _ _ k => k) (fun a st o t _ ⟨⟨⟨u, hu, e3, hP1, hK1, hD1⟩, hF⟩, L⟩ => by
    obtain ⟨a, d, q0, q1, c0, c1, c2, c3, c4, c5, t0, t1, k0, k1, k2, k3, k4, k5, k6, k7, f0, g0, g1, g2, g3, g4, g5, g6, g7, f1⟩ := u
    refine ⟨⟨⟨(adr [x0, q0, q1, t0, t1, f0, f1], adr [k0, k1, k2, k3, k4, k5, k6, k7], adr [g0, g1, g2, g3, g4, g5, g6, g7], a, d, cfn c0 c1 c2 c3 c4 c5, fn0 c0 c1 c2 c3 c4 c5), ⟨rfl, fn0_of _ _ _ _ _ _⟩, e3, ?_, hK1, ?_⟩, hF⟩, L⟩
    · show va_P D vwCl (List.flatten [clP _ _ _ _ _ _ _ _ _ _ _ _ _ _ _ _ _ _ _]) t.heap
      rw [flat1]
      exact P_subF (Wc := clF cI cZ cS (adr [x0, q0, q1, t0, t1, f0, f1]) (adr [k0, k1, k2, k3, k4, k5, k6, k7]) (adr [g0, g1, g2, g3, g4, g5, g6, g7]) a d 0 (cfn c0 c1 c2 c3 c4 c5) (fn0 c0 c1 c2 c3 c4 c5) 0 (fun _ => begS) (fun _ => 0) 0 begS begS (fun _ => 0) (-1000)) hP1 [0, 1, 2, 3, 4, 5, 6, 7, 8, 9, 10, 11, 12, 13, 14, 15, 16, 17, 18, 19, 20, 21, 22, 23, 24, 25, 26, 27, 28, 29, 30, 31, 32, 33, 34, 35, 36, 38, 37] rfl
    · show va_D _ (List.flatten [clP _ _ _ _ _ _ _ _ _ _ _ _ _ _ _ _ _ _ _])
      rw [flat1]
      exact D_subF (Wc := clF cI cZ cS (adr [x0, q0, q1, t0, t1, f0, f1]) (adr [k0, k1, k2, k3, k4, k5, k6, k7]) (adr [g0, g1, g2, g3, g4, g5, g6, g7]) a d 0 (cfn c0 c1 c2 c3 c4 c5) (fn0 c0 c1 c2 c3 c4 c5) 0 (fun _ => begS) (fun _ => 0) 0 begS begS (fun _ => 0) (-1000)) hD1 [0, 1, 2, 3, 4, 5, 6, 7, 8, 9, 10, 11, 12, 13, 14, 15, 16, 17, 18, 19, 20, 21, 22, 23, 24, 25, 26, 27, 28, 29, 30, 31, 32, 33, 34, 35, 36, 38, 37] (by decide +kernel) rfl)
theorem OK_beg : OK begS := by
  refine OK_of (y := 0) ?_ (mend_6 init0) rfl (by decide)
  refine ⟨fun j hj => ?_, fun r hr => ?_⟩
  · rcases (show j = 0 ∨ j = 1 ∨ j = 2 ∨ j = 3 ∨ j = 4 ∨ j = 5 ∨ j = 6 ∨ j = 7 by omega) with rfl | rfl | rfl | rfl | rfl | rfl | rfl | rfl <;> exact ⟨⟨by decide, by decide⟩, ⟨by decide, by decide⟩, ⟨by decide, by decide⟩⟩
  · rcases (show r = 0 ∨ r = 1 ∨ r = 2 ∨ r = 3 ∨ r = 4 ∨ r = 5 ∨ r = 6 by omega) with rfl | rfl | rfl | rfl | rfl | rfl | rfl <;> exact ⟨Or.inr (by decide), ⟨by decide, by decide⟩, ⟨by decide, by decide⟩⟩
theorem GD_beg : GD 0 begS := ⟨OK_beg, ⟨by decide, by decide⟩, by decide, by decide, by decide⟩
theorem cy_beg : cy begS = 0 := by decide
theorem NS_beg : NS begS := by
  unfold NS
  rw [cy_beg]
  exact ⟨fun k hk => absurd hk (Nat.not_lt_zero _), fun k hk => absurd hk (Nat.not_lt_zero _)⟩
theorem PD_beg : PD 0 begS := ⟨GD_beg, NS_beg, by decide, by decide⟩
theorem arrI {args : Array Value} {s : State} (h : (Cond.arrayClass .int).before args s = true) : ∃ cA, ArrOfT s cA .int ∧ va_RA s cA .int := by
  obtain ⟨cA, k, comp, h1, h2, h3⟩ := Cond.arrayClass_spec (first := s) (o := none) (idx := []) h
  exact ⟨cA, fun n z => ⟨fun k h => (by cases h), k, h2, comp, h3⟩, h1⟩
theorem arrZ {args : Array Value} {s : State} (h : (Cond.arrayClass .boolean).before args s = true) : ∃ cA, ArrOfT s cA .boolean ∧ va_RA s cA .boolean := by
  obtain ⟨cA, k, comp, h1, h2, h3⟩ := Cond.arrayClass_spec (first := s) (o := none) (idx := []) h
  exact ⟨cA, fun n z => ⟨fun k h => (by cases h), k, h2, comp, h3⟩, h1⟩
theorem arrO {args : Array Value} {s : State} {C : String} (h : (Cond.arrayOver (.object C)).before args s = true) : ∃ cA, ArrOfT s cA (.object C) ∧ va_RA s cA (.object C) := by
  obtain ⟨comp, cA, k, h1, h2, h3, h4, h5⟩ := Cond.arrayOver_spec (first := s) (o := none) (idx := []) h
  exact ⟨cA, fun n z => ⟨fun k h => (by cases h), k, h3, comp, h4⟩, k, comp, h3, h4, h1, h5⟩
theorem Kst {args : Array Value} {s : State} (hts : ∀ w ∈ wsL_law, w.before args s = true) (hov : (Cond.arrayOver (.object RX4)).before args s = true) (harrI : (Cond.arrayClass .int).before args s = true) (harrZ : (Cond.arrayClass .boolean).before args s = true)
    (hu : ∀ (k : Nat) (q : vw_C), vwCl[k]? = some q → ∃ (cC : ClassId) (iS : Nat → Nat), u_Kn s q.1 q.2.1 q.2.2 cC iS) : ∃ (D : va_G) (cI cZ cS cJ : ClassId), va_K D vwCl (tyL cI cZ cS cJ) s := by
  obtain ⟨cI, i1, i2⟩ := arrI harrI
  obtain ⟨cZ, z1, z2⟩ := arrZ harrZ
  obtain ⟨cS, s1, s2⟩ := arrO hov
  have hu2 : ∀ k : Nat, ∃ (x : ClassId × (Nat → Nat)), ∀ q, vwCl[k]? = some q → u_Kn s q.1 q.2.1 q.2.2 x.1 x.2 := fun k => by
    cases hk : vwCl[k]? with
    | none => exact ⟨(cI, fun _ => 0), fun q h => by cases h⟩
    | some q =>
      obtain ⟨cC, iS, h⟩ := hu k q hk
      exact ⟨(cC, iS), fun q2 h2 => by cases h2; exact h⟩
  refine ⟨(fun k => (hu2 k).choose.1, fun k => (hu2 k).choose.2), cI, cZ, cS, cI, fun k q hq => (hu2 k).choose_spec q hq, fun k q hq => ?_⟩
  have hk : k < 3 := (List.getElem?_eq_some_iff.mp hq).1
  rcases (show k = 0 ∨ k = 1 ∨ k = 2 by omega) with rfl | rfl | rfl
  · cases hq; exact ⟨i1, i2⟩
  · cases hq; exact ⟨z1, z2⟩
  · cases hq; exact ⟨s1, s2⟩
theorem tu_X0 : ∀ w ∈ u_ws RX0 TX0 7, w ∈ lw_tbl := by
  exact mem_r _ [91, 93, 95, 97, 99, 101, 103] (by decide +kernel)
theorem tu_X1 : ∀ w ∈ u_ws RX1 TX1 3, w ∈ lw_tbl := by
  exact mem_r _ [222, 224, 226] (by decide +kernel)
theorem tu_X2 : ∀ w ∈ u_ws RX2 TX2 2, w ∈ lw_tbl := by
  exact mem_r _ [189, 191] (by decide +kernel)
theorem tu_X3 : ∀ w ∈ u_ws RX3 TX3 4, w ∈ lw_tbl := by
  exact mem_r _ [119, 121, 123, 125] (by decide +kernel)
theorem tu_X4 : ∀ w ∈ u_ws RX4 TX4 12, w ∈ lw_tbl := by
  exact mem_r _ [152, 154, 156, 158, 160, 162, 164, 166, 168, 170, 172, 174] (by decide +kernel)
theorem tu_X5 : ∀ w ∈ u_ws RX5 TX5 2, w ∈ lw_tbl := by
  exact mem_r _ [202, 204] (by decide +kernel)
theorem tu_X6 : ∀ w ∈ u_ws RX6 TX6 7, w ∈ lw_tbl := by
  exact mem_r _ [236, 238, 240, 242, 244, 246, 248] (by decide +kernel)
theorem hu_all {args : Array Value} {s : State} (htab : ∀ w ∈ lw_tbl, w.before args s = true) : ∀ (k : Nat) (q : vw_C), vwCl[k]? = some q → ∃ (cC : ClassId) (iS : Nat → Nat), u_Kn s q.1 q.2.1 q.2.2 cC iS := by
  intro k q hq
  have hk : k < 7 := (List.getElem?_eq_some_iff.mp hq).1
  rcases (show k = 0 ∨ k = 1 ∨ k = 2 ∨ k = 3 ∨ k = 4 ∨ k = 5 ∨ k = 6 by omega) with rfl | rfl | rfl | rfl | rfl | rfl | rfl
  · cases hq; exact u_known (C := RX0) (T := TX0) (N := 7) (n := 7) htab tu_X0 (htab _ (List.mem_of_getElem? (i := 41) (by decide +kernel)))
  · cases hq; exact u_known (C := RX1) (T := TX1) (N := 3) (n := 3) htab tu_X1 (htab _ (List.mem_of_getElem? (i := 210) (by decide +kernel)))
  · cases hq; exact u_known (C := RX2) (T := TX2) (N := 2) (n := 2) htab tu_X2 (htab _ (List.mem_of_getElem? (i := 178) (by decide +kernel)))
  · cases hq; exact u_known (C := RX3) (T := TX3) (N := 4) (n := 4) htab tu_X3 (htab _ (List.mem_of_getElem? (i := 109) (by decide +kernel)))
  · cases hq; exact u_known (C := RX4) (T := TX4) (N := 12) (n := 12) htab tu_X4 (htab _ (List.mem_of_getElem? (i := 35) (by decide +kernel)))
  · cases hq; exact u_known (C := RX5) (T := TX5) (N := 2) (n := 2) htab tu_X5 (htab _ (List.mem_of_getElem? (i := 195) (by decide +kernel)))
  · cases hq; exact u_known (C := RX6) (T := TX6) (N := 7) (n := 7) htab tu_X6 (htab _ (List.mem_of_getElem? (i := 27) (by decide +kernel)))
theorem ZN_all {args : Array Value} {s : State} (htab : ∀ w ∈ lw_tbl, w.before args s = true) : ZN s :=
  ⟨va_Nw.of rfl (A := args) (htab (.methodLinkNest RX4 20 yX3_init RX6) (List.mem_of_getElem? (i := 110) (by decide +kernel))), va_Nw.of rfl (A := args) (htab (.methodLinkNest RX2 21 yX4_init RX6) (List.mem_of_getElem? (i := 185) (by decide +kernel))), va_Nw.of rfl (A := args) (htab (.methodLinkNest RX6 11 yX4_init RX6) (List.mem_of_getElem? (i := 36) (by decide +kernel))), va_Nw.of rfl (A := args) (htab (.methodLinkNest RX6 32 yX5_init RX6) (List.mem_of_getElem? (i := 196) (by decide +kernel))), va_Nw.of rfl (A := args) (htab (.methodLinkNest RX6 46 yX1_init RX6) (List.mem_of_getElem? (i := 211) (by decide +kernel))), va_AO.of (A := args) (htab (.arrayOver (.object RX4)) (List.mem_of_getElem? (i := 184) (by decide +kernel)))⟩

/-! the share lost: a number from 0 to 1, wherever the accounts of gas hold -/
theorem fl_no {x : UInt32} (h : FP.Core.val32 x ≠ .nan) : x &&& 0x7fffffff ≤ 0x7f800000 := by
  rw [UInt32.le_iff_toNat_le, UInt32.toNat_and]
  have h1 : (0x7fffffff : UInt32).toNat = 2 ^ 31 - 1 := by decide
  have h2 : (0x7f800000 : UInt32).toNat = 2139095040 := by decide
  rw [h1, h2, Nat.and_two_pow_sub_one_eq_mod]
  have h3 : ¬ FP.Core.fIsNaN x = true := fun q => h ((FP.Core.fIsNaN_iff x).mp q)
  rw [FP.Core.isNaN_bits32] at h3
  omega
theorem c1_val : FP.Core.val32 FP.fconst1 = .fin false (2 ^ 23) (-23) := FP.Core.val32_fconst1
theorem c0_val : FP.Core.val32 FP.fconst0 = .fin false 0 FP.Core.b32.qmin := FP.Core.val32_fconst0
theorem rr_ne (f : FP.Core.Fmt) (s : Bool) (A B : Nat) (e : Int) : FP.Core.roundRatio f s A B e ≠ .nan := by
  unfold FP.Core.roundRatio FP.Core.roundAt FP.Core.settle FP.Core.bound
  split
  · intro h; cases h
  · split
    · split <;> intro h <;> cases h
    · split <;> intro h <;> cases h
/-- a positive number below 2^24, with 24 digits -/
theorem two_k : ∀ (d N : Nat), 0 < N → N < 2 ^ 24 → 2 ^ 24 ≤ N + d → ∃ k, 2 ^ 23 ≤ N * 2 ^ k ∧ N * 2 ^ k < 2 ^ 24 := by
  intro d
  induction d with
  | zero => intro N h1 h2 h3; omega
  | succ d ih =>
    intro N h1 h2 h3
    by_cases h : 2 ^ 23 ≤ N
    · exact ⟨0, by omega, by omega⟩
    · obtain ⟨k, h4, h5⟩ := ih (2 * N) (by omega) (by omega) (by omega)
      have e9 : N * 2 ^ (k + 1) = 2 * N * 2 ^ k := by
        rw [Nat.pow_succ, Nat.mul_comm (2 ^ k) 2, ← Nat.mul_assoc, Nat.mul_comm N 2]
      exact ⟨k + 1, by rw [e9]; exact h4, by rw [e9]; exact h5⟩
theorem two_k23 {N k : Nat} (h1 : 0 < N) (h2 : N * 2 ^ k < 2 ^ 24) : k ≤ 23 := by
  have h3 : 2 ^ k ≤ N * 2 ^ k := Nat.le_mul_of_pos_left _ h1
  have h4 : 2 ^ k < 2 ^ 24 := Nat.lt_of_le_of_lt h3 h2
  have := (Nat.pow_lt_pow_iff_right (by decide : 1 < 2)).mp h4
  omega
theorem i2f_val {n : Int32} {N : Nat} (h : n.toInt = (N : Int)) (h1 : 0 < N) (h2 : N < 2 ^ 24) : ∃ k : Nat, k ≤ 23 ∧ 2 ^ 23 ≤ N * 2 ^ k ∧ FP.Core.val32 (FP.i2f n) = .fin false (N * 2 ^ k) (-(k : Int)) := by
  obtain ⟨k, h3, h4⟩ := two_k (2 ^ 24) N h1 h2 (by omega)
  have hk := two_k23 h1 h4
  refine ⟨k, hk, h3, ?_⟩
  have e1 : FP.Core.val32 (FP.i2f n) = FP.Core.round FP.Core.b32 (FP.Core.ofInt n.toInt) := FP.Core.val32_i2f n
  rw [e1, h]
  have e2 : FP.Core.ofInt (N : Int) = .fin false N 0 := by
    unfold FP.Core.ofInt
    rw [decide_eq_false (by omega : ¬ (N : Int) < 0)]
    rfl
  rw [e2]
  show FP.Core.roundRatio FP.Core.b32 false N 1 0 = _
  refine FP.Core.roundRatio_exact FP.Core.good_b32 (by decide) ?_ ?_
  · have q1 : FP.Core.b32.qmin = -149 := by decide
    have q2 : FP.Core.b32.qmax = 104 := by decide
    have q3 : FP.Core.b32.tails = 2 ^ 23 := by decide
    exact ⟨h4, by rw [q1]; omega, by rw [q2]; omega, Or.inr (by rw [q3]; exact h3)⟩
  · rw [show (0 - -(k : Int)).toNat = k by omega, show (-(k : Int) - 0).toNat = 0 by omega]
    simp
/-- a share of two whole numbers is a number of 24 digits -/
theorem rr_val9 {a b : Nat} (ha : 0 < a) (hab : a ≤ b) (hb : b < 2 ^ 24) : ∃ (c : Nat) (j : Nat), j ≤ 24 ∧ 2 ^ 23 ≤ c ∧ c < 2 ^ 24 ∧ (j = 0 → c = 2 ^ 23) ∧ FP.Core.roundRatio FP.Core.b32 false a b 0 = .fin false c (-23 - (j : Int)) := by
  have hb0 : 0 < b := by omega
  have q1 : FP.Core.b32.qmin = -149 := by decide
  have q2 : FP.Core.b32.qmax = 104 := by decide
  have q3 : FP.Core.b32.tails = 2 ^ 23 := by decide
  have q4 : ((FP.Core.b32.p : Nat) : Int) = 24 := by decide
  obtain ⟨Q, hQ⟩ : ∃ Q, Q = FP.Core.quantum FP.Core.b32 a b 0 := ⟨_, rfl⟩
  have b1 := FP.Core.quantum_below (f := FP.Core.b32) ha hb0 0
  have b2 := FP.Core.quantum_not_below (f := FP.Core.b32) ha hb0 0
  rw [← hQ, q4, q1] at b2
  rw [← hQ, q4] at b1
  have lo : -47 ≤ Q := Classical.byContradiction fun h => by
    have b3 : FP.Core.Below a b (-24) := FP.Core.below_mono (by omega) b1
    unfold FP.Core.Below at b3
    rw [show (-(-24 : Int)).toNat = 24 by decide, show (-24 : Int).toNat = 0 by decide, Nat.pow_zero, Nat.mul_one] at b3
    have : 2 ^ 24 ≤ a * 2 ^ 24 := Nat.le_mul_of_pos_left _ ha
    omega
  have hi : Q ≤ -23 := Classical.byContradiction fun h => by
    rcases b2 with b2 | b2
    · omega
    · refine b2 (FP.Core.below_mono (a := 1) (by omega) ?_)
      unfold FP.Core.Below
      rw [show (-(1 : Int)).toNat = 0 by decide, show (1 : Int).toNat = 1 by decide, Nat.pow_zero, Nat.mul_one, Nat.pow_one]
      omega
  have hf := FP.Core.roundRatio_fits FP.Core.good_b32 false a hb0 0
  have hn := rr_ne FP.Core.b32 false a b 0
  have hle := FP.Core.nearest_units_le (f := FP.Core.b32) ha hb0 0
  have e : FP.Core.roundRatio FP.Core.b32 false a b 0 = FP.Core.settle FP.Core.b32 false (FP.Core.nearest (FP.Core.unitsNum a 0 Q) (FP.Core.unitsDen b 0 Q)) Q := by
    unfold FP.Core.roundRatio
    rw [if_neg (by omega), ← hQ]
    rfl
  rw [← hQ] at hle
  have hle2 : Q = -23 → FP.Core.nearest (FP.Core.unitsNum a 0 Q) (FP.Core.unitsDen b 0 Q) ≤ 2 ^ 23 := fun h9 => by
    subst h9
    refine FP.Core.nearest_le (FP.Core.unitsDen_pos hb0 _ _) ?_
    unfold FP.Core.unitsNum FP.Core.unitsDen
    rw [show ((0 : Int) - -23).toNat = 23 by decide, show ((-23 : Int) - 0).toNat = 0 by decide, Nat.pow_zero, Nat.mul_one, Nat.mul_comm]
    exact Nat.mul_le_mul_left _ hab
  generalize FP.Core.nearest (FP.Core.unitsNum a 0 Q) (FP.Core.unitsDen b 0 Q) = M at e hle hle2
  unfold FP.Core.settle at e
  by_cases hM : M < 2 ^ FP.Core.b32.p
  · rw [if_pos hM] at e
    unfold FP.Core.bound at e
    rw [if_pos (by rw [q2]; omega)] at e
    rw [e] at hf
    obtain ⟨f1, f2, f3, f4⟩ := hf
    rw [q1, q3] at f4
    have f5 : 2 ^ 23 ≤ M := by
      rcases f4 with f4 | f4
      · omega
      · exact f4
    refine ⟨M, (-23 - Q).toNat, by omega, f5, hM, fun h9 => ?_, by rw [e, show -23 - ((-23 - Q).toNat : Int) = Q by omega]⟩
    have h8 := hle2 (by omega)
    omega
  · rw [if_neg hM] at e
    unfold FP.Core.bound at e
    rw [if_pos (by rw [q2]; omega)] at e
    by_cases hQ2 : Q = -23
    · exfalso
      have h9 := hle2 hQ2
      have h8 : FP.Core.b32.p = 24 := by decide
      rw [h8] at hM
      omega
    · refine ⟨2 ^ 23, (-23 - (Q + 1)).toNat, by omega, by omega, by omega, fun _ => rfl, by rw [e, q3, show -23 - ((-23 - (Q + 1)).toNat : Int) = Q + 1 by omega]⟩
theorem one_lt {v : UInt32} {c : Nat} {j : Nat} (h : FP.Core.val32 v = .fin false c (-23 - ((j + 1 : Nat) : Int))) (h2 : c < 2 ^ 24) : ¬ 0 ≤ Op.cmpValue (FP.fcmp v FP.fconst1) CmpOp.g := by
  have e : FP.fcmp v FP.fconst1 = FP.Core.order (FP.Core.val32 v) (FP.Core.val32 FP.fconst1) := rfl
  rw [e, h, c1_val]
  have e2 : FP.Core.order (.fin false c (-23 - ((j + 1 : Nat) : Int))) (.fin false (2 ^ 23) (-23)) = some (compare (c : Int) ((2 ^ 23 * 2 ^ (j + 1) : Nat) : Int)) := by
    show some (compare (FP.Core.signed false (FP.Core.inUnits c (-23 - ((j + 1 : Nat) : Int)) (min (-23 - ((j + 1 : Nat) : Int)) (-23)))) (FP.Core.signed false (FP.Core.inUnits (2 ^ 23) (-23) (min (-23 - ((j + 1 : Nat) : Int)) (-23))))) = _
    have e3 : min (-23 - ((j + 1 : Nat) : Int)) (-23) = -23 - ((j + 1 : Nat) : Int) := by omega
    rw [e3]
    unfold FP.Core.inUnits
    rw [show (-23 - ((j + 1 : Nat) : Int) - (-23 - ((j + 1 : Nat) : Int))).toNat = 0 by omega, show (-23 - (-23 - ((j + 1 : Nat) : Int))).toNat = j + 1 by omega, Nat.pow_zero, Nat.mul_one]
    rfl
  rw [e2]
  have h5 : 2 ^ 24 ≤ 2 ^ 23 * 2 ^ (j + 1) := by
    rw [Nat.pow_succ]
    have := Nat.two_pow_pos j
    omega
  have e4 : compare (c : Int) ((2 ^ 23 * 2 ^ (j + 1) : Nat) : Int) = .lt := by
    simp only [compare, compareOfLessAndEq]
    rw [if_pos (by omega)]
  rw [e4]
  decide
theorem gt_0 {v : UInt32} {c : Nat} {q : Int} (h : FP.Core.val32 v = .fin false c q) (h1 : 0 < c) (h3 : -149 ≤ q) : FP.fcmp v FP.fconst0 = some .gt := by
  have e : FP.fcmp v FP.fconst0 = FP.Core.order (FP.Core.val32 v) (FP.Core.val32 FP.fconst0) := rfl
  rw [e, h, c0_val]
  have e2 : FP.Core.order (.fin false c q) (.fin false 0 FP.Core.b32.qmin) = some (compare ((c * 2 ^ (q + 149).toNat : Nat) : Int) 0) := by
    have q1 : FP.Core.b32.qmin = -149 := by decide
    rw [q1]
    show some (compare (FP.Core.signed false (FP.Core.inUnits c q (min q (-149)))) (FP.Core.signed false (FP.Core.inUnits 0 (-149) (min q (-149))))) = _
    rw [show min q (-149) = -149 by omega]
    unfold FP.Core.inUnits
    rw [Nat.zero_mul, show q - -149 = q + 149 by omega]
    rfl
  rw [e2]
  have h5 : 0 < c * 2 ^ (q + 149).toNat := Nat.mul_pos h1 (Nat.two_pow_pos _)
  have e4 : compare ((c * 2 ^ (q + 149).toNat : Nat) : Int) 0 = .gt := by
    simp only [compare, compareOfLessAndEq]
    rw [if_neg (by omega), if_neg (by omega)]
  rw [e4]
theorem one_eq {v : UInt32} (h : FP.Core.val32 v = .fin false (2 ^ 23) (-23)) : FP.fcmp v FP.fconst1 = some .eq := by
  have e : FP.fcmp v FP.fconst1 = FP.Core.order (FP.Core.val32 v) (FP.Core.val32 FP.fconst1) := rfl
  rw [e, h, c1_val]
  decide +kernel
/-- what the law asks of a float -/
def U01 (v : UInt32) : Prop := FP.Core.val32 v ≠ .nan ∧ ¬ Op.cmpValue (FP.fcmp v FP.fconst0) CmpOp.l < 0 ∧ ¬ 0 < Op.cmpValue (FP.fcmp v FP.fconst1) CmpOp.g
theorem U01_0 {v : UInt32} (h : FP.Core.val32 v = .fin false 0 FP.Core.b32.qmin) : U01 v := by
  have e0 : FP.fcmp v FP.fconst0 = some .eq := by
    have e : FP.fcmp v FP.fconst0 = FP.Core.order (FP.Core.val32 v) (FP.Core.val32 FP.fconst0) := rfl
    rw [e, h, c0_val]
    decide +kernel
  have e1 : FP.fcmp v FP.fconst1 = some .lt := by
    have e : FP.fcmp v FP.fconst1 = FP.Core.order (FP.Core.val32 v) (FP.Core.val32 FP.fconst1) := rfl
    rw [e, h, c1_val]
    decide +kernel
  refine ⟨(by rw [h]; intro q; cases q), ?_, ?_⟩
  · rw [e0]; decide
  · rw [e1]; decide
theorem U01_v {v : UInt32} {c j : Nat} (hj : j ≤ 24) (h1 : 2 ^ 23 ≤ c) (h2 : c < 2 ^ 24) (h3 : j = 0 → c = 2 ^ 23) (h : FP.Core.val32 v = .fin false c (-23 - (j : Int))) : U01 v := by
  refine ⟨(by rw [h]; intro q; cases q), ?_, ?_⟩
  · rw [gt_0 h (by omega) (by omega)]; decide
  · cases j with
    | zero =>
      have e := h3 rfl
      subst e
      rw [one_eq h]
      decide
    | succ j =>
      have h5 := one_lt h h2
      intro q
      exact h5 (Int32.le_of_lt q)
theorem ls_val9 {x y : Int32} {a b : Nat} (hx : x.toInt = (a : Int)) (hy : y.toInt = (b : Int)) (hab : a ≤ b) (hb0 : 0 < b) (hb : b < 2 ^ 24) : U01 (FP.fdiv (FP.i2f x) (FP.i2f y)) := by
  have e0 : FP.Core.val32 (FP.fdiv (FP.i2f x) (FP.i2f y)) = FP.Core.quotient FP.Core.b32 (FP.Core.val32 (FP.i2f x)) (FP.Core.val32 (FP.i2f y)) := FP.Core.val32_fdiv _ _
  obtain ⟨m, hm, hm2, em⟩ := i2f_val hy hb0 hb
  have hB : 0 < b * 2 ^ m := Nat.mul_pos hb0 (Nat.two_pow_pos _)
  by_cases ha : a = 0
  · subst ha
    have ex : FP.Core.val32 (FP.i2f x) = .fin false 0 FP.Core.b32.qmin := by
      have e1 : FP.Core.val32 (FP.i2f x) = FP.Core.round FP.Core.b32 (FP.Core.ofInt x.toInt) := FP.Core.val32_i2f x
      rw [e1, hx]
      decide +kernel
    have ev : FP.Core.val32 (FP.fdiv (FP.i2f x) (FP.i2f y)) = .fin false 0 FP.Core.b32.qmin := by
      rw [e0, ex, em]
      show (if b * 2 ^ m = 0 then _ else FP.Core.roundRatio FP.Core.b32 (false != false) 0 (b * 2 ^ m) _) = _
      rw [if_neg (by omega)]
      rfl
    exact U01_0 ev
  · obtain ⟨k, hk, hk2, ek⟩ := i2f_val hx (by omega) (by omega)
    have ev : FP.Core.val32 (FP.fdiv (FP.i2f x) (FP.i2f y)) = FP.Core.roundRatio FP.Core.b32 false a b 0 := by
      rw [e0, ek, em]
      show (if b * 2 ^ m = 0 then _ else FP.Core.roundRatio FP.Core.b32 (false != false) (a * 2 ^ k) (b * 2 ^ m) (-(k : Int) - -(m : Int))) = _
      rw [if_neg (by omega)]
      refine FP.Core.roundRatio_congr hB hb0 ?_
      have e9 : ∀ u w : Nat, a * 2 ^ k * b * 2 ^ u = a * (b * 2 ^ m) * 2 ^ w ↔ a * b * 2 ^ (k + u) = a * b * 2 ^ (m + w) := fun u w => by
        rw [Nat.pow_add, Nat.pow_add]
        constructor <;> intro h <;> simp only [Nat.mul_comm, Nat.mul_assoc, Nat.mul_left_comm] at h ⊢ <;> exact h
      rw [e9]
      rw [show k + (-(k : Int) - -(m : Int) - 0).toNat = m + (0 - (-(k : Int) - -(m : Int))).toNat by omega]
    obtain ⟨c, j, hj, h1, h2, h3, ec⟩ := rr_val9 (by omega) hab hb
    rw [ec] at ev
    exact U01_v hj h1 h2 h3 ev
theorem FLS_all : FLS := by
  intro t S ht h
  obtain ⟨hO, ⟨a1, a2⟩, a3, a4, a5⟩ := h
  have gn := gs_nn (f := S 0) 8 (fun j hj => (hO.1.1 j hj).1.1)
  have f1 : (S 12 2 + S 12 3).toInt = (S 12 2).toInt + (S 12 3).toInt := i_add (by omega) (by omega) (by omega) (by omega)
  have f0 : (480 : Int32).toInt = 480 := by decide
  have f2 : (480 + S 12 1).toInt = 480 + (S 12 1).toInt := by rw [i_add (by omega) (by omega) (by omega) (by omega), f0]
  have q := ls_val9 (x := S 12 2 + S 12 3) (y := 480 + S 12 1) (a := ((S 12 2).toInt + (S 12 3).toInt).toNat) (b := (480 + (S 12 1).toInt).toNat) (by omega) (by omega) (by omega) (by omega) (by omega)
  exact ⟨fl_no q.1, q.2⟩
/-! THE CLAIM OUT OF ONE WALK OF THE LAW'S BODY. Your part is whole_start (and what it stands on); all else here is the same for every law, but numbers. -/
def R_law : String := "RibbonBalloonsLaw"
def lw_P (b : Addr) (xs : List Int32) (args : Array Value) (s : State) : Prop := args = #[.ref b] ∧ s.IntsAt b xs ∧ xs.length ≤ 260 ∧ (Jvm.Cond.and given_1 narrow_1).before args s = true
/-- what a walk over the start with the record d0 says of its end, said of the start itself -/
theorem lw_closed {s t : State} {o : Outcome} {d0 : Drawn} {L : List Loc} {k n : Nat} (hd0 : s.drawn.sameBut d0 lw_cs) (hv : ∃ v, o = .returned v) (hW : (s.setDrawn d0).WarmedH t.vm) (hs : (s.setDrawn d0).sameButNew ({ t with vm := s.vm } : State) L k n) : State.butDraws s t lw_cs (fun t1 => Framed s o t1 L k n) := by
  have h2 : t.drawn = d0 := congrArg State.drawn hs.1
  refine ⟨⟨hv, hW, State.sameButNew.setDrawn hs s.drawn⟩, ?_, by decide⟩
  rw [h2]
  exact hd0
def lw_Q (_ : Array Value) (s : State) (o : Outcome) (t : State) : Prop := o = .returned (some (.int 1)) ∧ State.butDraws s t lw_cs (fun t1 => Framed s o t1 [] 600172 7300668)
def lw_Z (below : List Frame) (a : Array Value) (s : State) : State → Prop := fun t => ∃ o, t.status = .running ∧ Ended t below o ∧ lw_Q a s o t
/-- the law's own end, with 1 on the stack, nothing written that was there before, its room as the claim has it; d0: the record of draws at this point (at the entry s.drawn: begin with 'refine W.base ?_' and 'have hd0 := Drawn.sameBut.refl s.drawn lw_cs') -/
theorem lw_ret {p : Program} {l : Launch} {e : Env} {s : State} {m : MethodId} {below : List Frame} {meth : Method} {c : Code} {b : Nat} {d0 : Drawn} (hd0 : s.drawn.sameBut d0 lw_cs) (hx : p.tables.exec = Jvm.exec) (hb : c.code = code) (hr : meth.sig.returnType = ret) (hlocks : meth.locks = false) {pc : Nat} {H : Heap} {ls : Array Slot} (hdg : decode code pc = .ok (.ireturn, 1)) : W p l e room_1 (s.setDrawn d0) m #[Value.ref b] below meth c H [] 600172 7300668 (lw_Z below #[Value.ref b] s) (F0 m pc ls [.int 1]) := by
  intro T hT X
  obtain ⟨fs, hret, hrun, hended, hW, hframe⟩ := X.leave (v := some (.int 1)) (hlocks := hlocks) (fun h => by rw [hr] at h; cases h)
  have hmeth' : T.vm.method? m = some meth := X.method'
  refine ⟨T.setFrames fs, ?_, .returned (some (.int 1)), hrun, hended, rfl, lw_closed hd0 ⟨_, rfl⟩ hW hframe⟩
  jvm_step X.here [X.here.top, hx, hb, hdg, hmeth', hr, ret, narrow_b1]
  (try refine ⟨rfl, ?_⟩); (try refine ⟨rfl, ?_⟩)
  first | (intro acts; rw [hret _ acts rfl rfl rfl]) | rw [hret _ _ rfl rfl rfl]
  exact Steps.refl _
/-- what holds at the law's entry: the machine, the code, the tables' words (any of lw_tbl by 'hts w (by decide +kernel)'), the script of L ints xs at the cell b, what the Statement gives of the start (any of its parts by flat_of_before) -/
def lw_At (p : Program) (s : State) (m : MethodId) (meth : Method) (c : Code) (b L : Nat) (xs : Nat → Int32) : Prop :=
  p.tables.exec = Jvm.exec ∧ c.code = code ∧ meth.sig.returnType = ret ∧ c.maxLocals = 13 ∧ s.vm.findClass R_law = some m.cls ∧ (∀ w ∈ lw_tbl, w.before #[Value.ref b] s = true) ∧ va_X b L xs s s.heap ∧ b < s.heap.size ∧ meth.locks = false ∧ (Jvm.Cond.and given_1 narrow_1).before #[Value.ref b] s = true
set_option maxHeartbeats 4000000 in
set_option maxRecDepth 100000 in
theorem whole_start {p : Program} {e : Env} {s : State} {m : MethodId} {below : List Frame} {meth : Method} {c : Code} (l : Launch) (hflags : l.flags = flags0) {b L : Nat} {xs : Nat → Int32} (hL : L ≤ 260) (C0 : lw_At p s m meth c b L xs) : W p l e room_1 s m #[Value.ref b] below meth c s.heap [] 0 0 (lw_Z below #[Value.ref b] s) (entryFrame m ([Value.ref b] : List Value).toArray 13) := by
  obtain ⟨hx, hb, hr, hml, hown, htab, hX, hbl, hlocks, hgv⟩ := id C0
  have hts : ∀ w ∈ wsL_law, w.before #[Value.ref b] s = true := fun w h => htab w (tb_law w h)
  have hbA : ¬ (fun q : Nat => s.heap.size ≤ q) b := Nat.not_le.mpr hbl
  obtain ⟨A, hAe⟩ : ∃ A : Nat → Prop, A = fun q : Nat => s.heap.size ≤ q := ⟨_, rfl⟩
  rw [← hAe] at hbA
  have hA : ∀ q : Nat, s.heap.size ≤ q → A q := fun q h => by rw [hAe]; exact h
  have hAq : ∀ q : Nat, A q → s.heap.size ≤ q := fun q h => by rw [hAe] at h; exact h
  have hZN : ZN s := ZN_all htab
  have X : CallFix p m c cL_law 13 s #[Value.ref b] wsL_law RL := ⟨hx, hb, hml, hown, hts⟩
  obtain ⟨D, cI, cZ, cS, cJ, hK⟩ := Kst hts (htab (.arrayOver (.object RX4)) (List.mem_of_getElem? (i := 184) (by decide +kernel))) (htab (.arrayClass .int) (List.mem_of_getElem? (i := 106) (by decide +kernel))) (htab (.arrayClass .boolean) (List.mem_of_getElem? (i := 107) (by decide +kernel))) (hu_all htab)
  have hS : va_S A s.heap s.heap [] := va_S.rf
  have hP : va_P D vwCl (List.flatten ([] : List va_W)) s.heap := fun k q h => by simp at h
  have hD : va_D A (List.flatten ([] : List va_W)) := ⟨fun i j p q h => by simp at h, fun k q h => by simp at h⟩
  have hl := lv_entry ([.ref b]) (n := 13) (Nat.le_of_ble_eq_true rfl)
  rw [lg_entry_eq]
  generalize (lg_sl ([.ref b]) ++ List.replicate (13 - (lg_sl ([.ref b])).length) Slot.unset).toArray = ls at hl ⊢
  have hl : lv_has ls 13 [(0, .ref b)] := hl
  refine r_newO (Wr := []) (C := RX6) (T := TX6) (N := 7) (ci := 6) hx hb htab tu_X6 tyX6 tyX6_ok hown (htab (.classLink RL 14 RX6) (List.mem_of_getElem? (i := 26) (by decide +kernel))) (htab (.instantiable RX6 7) (List.mem_of_getElem? (i := 27) (by decide +kernel))) (htab (.initialized RX6) (List.mem_of_getElem? (i := 10) (by decide +kernel))) hK hP hD hS hA rfl [.null, .null, .int 0, .null, .null, .null, .null] (fun j hj => by rcases (show j = 0 ∨ j = 1 ∨ j = 2 ∨ j = 3 ∨ j = 4 ∨ j = 5 ∨ j = 6 by omega) with rfl | rfl | rfl | rfl | rfl | rfl | rfl <;> rfl) (Nat.le_of_ble_eq_true rfl) (Nat.le_of_ble_eq_true rfl) dL_law_0 (fun x0 H hP hD hS => ?_)
  refine lv_dup hx hb dL_law_3 rfl ?_
  refine kcallIY (As := []) (rest := [.ref x0]) (U := UI) (Wr := []) (Wo := fun u => [clP cI cZ cS u.1 u.2.1 u.2.2.1 u.2.2.2.1 u.2.2.2.2.1 0 u.2.2.2.2.2.1 u.2.2.2.2.2.2 0 (fun _ => begS) (fun _ => 0) 0 begS begS (fun _ => 0) (-1000)]) X hZN (k_init l D cI cZ cS cJ x0) (cwI 0 hts gL_law_X6_init rfl rfl rfl (htab (.initialized RX6) (List.mem_of_getElem? (i := 10) (by decide +kernel))) (htab (.methodLink RL 103 yX6_init) (List.mem_of_getElem? (i := 28) (by decide +kernel))) (htab (.instanceMethod yX6_init) (List.mem_of_getElem? (i := 29) (by decide +kernel))) rfl (by decide +kernel) ⟨Nat.le_of_ble_eq_true rfl, Nat.le_of_ble_eq_true rfl⟩) hK hP hD hS hA rfl hl.1 rfl (Nat.le_of_ble_eq_true rfl) dL_law_4 ⟨Nat.le_of_ble_eq_true rfl, Nat.le_of_ble_eq_true rfl⟩ (fun u H locs hu hP hD hS => ?_)
  obtain ⟨O, k, g, a, d, c9, f⟩ := u
  obtain ⟨hO0, hf⟩ := hu
  have hO0 : O 0 = x0 := hO0
  have hf : ∀ i, i < 6 → f i = some (c9 i 0) := hf
  have hP9 := hP
  have hD9 := hD
  subst hO0
  have hP := hP9
  have hD := hD9
  have hP : va_P D vwCl (List.flatten [clP cI cZ cS O k g a d 0 c9 f 0 (fun _ => begS) (fun _ => 0) 0 begS begS (fun _ => 0) (-1000)]) _ := hP
  have hD : va_D A (List.flatten [clP cI cZ cS O k g a d 0 c9 f 0 (fun _ => begS) (fun _ => 0) 0 begS begS (fun _ => 0) (-1000)]) := hD
  refine lv_astore_n (lv' := [(1, .ref (O 0)), (0, .ref b)]) hx hb dL_law_7 rfl hl (by decide) rfl (fun ls hl => ?_)
  refine W.widen (k := 143) (n := 1424) (by omega) (by omega) ?_
  generalize hVb : (fun _ : Nat => begS) = Vb at hP hD
  have hVb0 : Vb 0 = begS := by rw [← hVb]
  have hVb7 : Vb 7 = begS := by rw [← hVb]
  have hwb : WI begS begS c9 f 0 Vb := ⟨by decide, hf, hVb0, hVb7⟩
  refine whole_rest l D cI cZ cS cJ X hK hA O k g a d hX hbl hbA hL (fun _ => 0) 0 c9 f 0 Vb begS begS (fun _ => 0) (-1000) hwb FLS_all (fun H locs ls hS hl => ?_) _ _ _ hP hD hS hl
  refine va_forget (fun q hq => hAq _ (hS.2.2 q hq)) ?_
  refine W.widen (k := 600172) (n := 7300668) (by decide) (by decide) ?_
  refine lv_iload_n hx hb dL_law_269 rfl (lv_at hl 0 rfl) ?_
  exact W.base (lw_ret (Drawn.sameBut.refl s.drawn lw_cs) hx hb hr hlocks dL_law_270)
set_option maxHeartbeats 4000000 in
theorem lw_walk (l : Launch) (hflags : l.flags = flags0) (b : Addr) (xs : List Int32) : MetFree l x (headSpec (Jvm.Cond.code x code maxLocals ret :: tables_1) room_1) (lw_P b xs) (fun _ _ _ _ _ => True) lw_Q := by
  refine MetFree.of_bodyS (code := code) (maxLocals := maxLocals) (ret := ret) (by decide) ?_ ?_
  · intro args s m h hn
    obtain ⟨meth, c, h1, h2, h3, h4, h5, h6, -, -⟩ := Cond.code_spec hn (atoms_spec (ws := Jvm.Cond.code x code maxLocals ret :: tables_1) h _ List.mem_cons_self)
    exact ⟨meth, c, h1, h2, h3, h4, h5, h6⟩
  · intro p e s m args below meth c s₁ B hml0 hP _
    obtain ⟨rfl, hx, hbd, hgv⟩ := hP
    obtain ⟨scr, harrAt, hlist, hof, hsmall⟩ := hx
    obtain ⟨hcb, hkn, -, -⟩ := State.arrayAt?_spec harrAt
    have hown : s.vm.findClass R_law = some m.cls := findClass_of_methodNamed B.named
    have hts0 : ∀ c ∈ (Jvm.Cond.code x code maxLocals ret :: tables_1), c.before #[Value.ref b] s = true := atoms_spec (ws := Jvm.Cond.code x code maxLocals ret :: tables_1) B.pre
    have hts : ∀ w ∈ lw_tbl, w.before #[Value.ref b] s = true := k2_hts_sels lw_privs (fun w hw => hts0 w (List.mem_cons_of_mem _ hw)) lw_privs_ok
    have hml : c.maxLocals = 13 := B.maxLocals_eq (hts0 _ List.mem_cons_self)
    have X₀ : Stand p l e room_1 s m #[Value.ref b] below meth c s₁ [] 0 0 := Stand.of_body B
    have hh0 : s₁.heap = s.heap := by rw [B.state]; rfl
    have hsz : scr.slots.size = xs.length := by rw [← Array.length_toList, hlist, List.length_map]
    have hval : ∀ j : Nat, j < xs.length → scr.slots[j]? = some (.int (xs.getD j 0)) := fun j hj => by
      rw [← Array.getElem?_toList, hlist]
      simp [hj]
    have hbl : b < s.heap.size := (Array.getElem?_eq_some_iff.mp hcb).1
    have hX : va_X b xs.length (fun j => xs.getD j 0) s s.heap := ⟨scr, hcb, hof, hkn, hsz, hval⟩
    have K : W p l e room_1 s m #[Value.ref b] below meth c s₁.heap [] 0 0 (lw_Z below #[Value.ref b] s) (entryFrame m ([Value.ref b] : List Value).toArray 13) := by
      rw [hh0]
      exact whole_start l hflags hbd ⟨B.exec, B.bytes, B.returns, hml, hown, hts, hX, hbl, B.notSynchronized, hgv⟩
    obtain ⟨t, a1, o, b1, b2, b3⟩ := K s₁ rfl X₀
    exact ⟨t, o, a1, b1, b2, b3⟩
theorem lw_pre_spec {args : Array Value} {s : State} (h : (Jvm.Cond.and given_1 narrow_1).before args s = true) (hr : rest_1_c.before args s = true) : ∃ (b : Addr) (xs : List Int32), lw_P b xs args s := by
  have hs := flat_of_before _ h
  have hq := flat_of_before _ hr
  have hc : (Cond.count 1).before args s = true := hs _ (by decide +kernel)
  have harr : (Cond.arrayOf (.arg 0) .int).before args s = true := hs _ (by decide +kernel)
  have hle : (Cond.le (.length (.arg 0)) (.int 260)).before args s = true := hs _ (by decide +kernel)
  have hlen : (Cond.isInt (.length (.arg 0))).before args s = true := hq _ (by decide +kernel)
  have hall : (Cond.all (.arg 0) (.isInt (.elem (.arg 0) (.index 0)))).before args s = true := hq _ (by decide +kernel)
  obtain ⟨b, xs, hb, hx⟩ := State.ints_of_pre rfl harr hlen hall
  have hsm : xs.length < 2 ^ 31 := hx.choose_spec.2.2.2
  have hev : (Term.length (.arg 0)).eval args s none [] s = some (.int xs.length.toInt32) := hx.length_eval hb
  have hv := Cond.le_ints hev (show (Term.int 260).eval args s none [] s = some (.int 260) from rfl)
  have hd : xs.length.toInt32 ≤ 260 := by
    simpa [Cond.before, Cond.holds, hv] using hle
  have hN : xs.length ≤ 260 := (Int32.ofNat_le_ofNat hsm (by decide)).mp (show Int32.ofNat xs.length ≤ Int32.ofNat 260 from hd)
  exact ⟨b, xs, Cond.one_arg hc (show args[0]? = some (.ref b) from hb), hx, hN, h⟩
theorem lw_comes (l : Launch) (hflags : l.flags = flags0) : Comes l x (Jvm.Cond.code x code maxLocals ret :: tables_1) room_1 (fun tb e args s => Calls_1 tb e args s ∧ rest_1 tb e args s ∧ Pre_1 tb e args s)
    (fun _ _ args s o t => lw_Q args s o t) := by
  intro p e ha hc hk s m args below hf hfit hheap happ hpre
  obtain ⟨b, xs, hP⟩ := lw_pre_spec hpre.2.2 hpre.2.1
  obtain ⟨k, o, h1, h2, h3, hQ⟩ := lw_walk l hflags b xs p e ha hc hk s m args below hf ((Spec.applies_iff_loose hf).mp happ).1 hP trivial
  exact ⟨k, o, h1, h2, h3, hQ⟩
theorem lw_frame {s t : State} {o : Outcome} {args : Array Value} (h : State.butDraws s t lw_cs (fun t1 => Framed s o t1 [] 600172 7300668)) :
    State.butDraws s t [Jvm.Choice.named "NaN.bits"] (fun t1 => Framed s o t1 (fieldLocs frame_1_writes args s ++ arrayLocs frame_1_arrays args s ++ staticLocs frame_1_statics s) 600172 7300668) := h
theorem lw_limb (L : Cond) (hL : ∀ (args : Array Value) (s t : State), L.after args s (.returned (some (.int 1))) t = true) :
    ArmFor flags0 classFile x code maxLocals ret World_1 tables_1 room_1 Calls_1 rest_1 Pre_1
      (fun tb e a s o t => postC L tb e a s o t ∧ State.butDraws s t [Jvm.Choice.named "NaN.bits"] (fun t1 => Framed s o t1 (fieldLocs frame_1_writes a s ++ arrayLocs frame_1_arrays a s ++ staticLocs frame_1_statics s) 600172 7300668)) := by
  intro l hflags _ _ p e ha hc hk s m args below hf hfit hheap happ hpre
  obtain ⟨k, o, h1, h2, h3, rfl, hF⟩ := lw_comes l hflags p e ha hc hk s m args below hf hfit hheap happ hpre
  exact ⟨k, _, h1, h2, h3, hL args s _, lw_frame hF⟩
theorem i_vc : Claimed_1_1 ∧ Claimed_1_2 := ⟨lw_limb limb_1_1 (fun args s t => by simp [limb_1_1, Cond.after, Cond.holds, Cond.value]), lw_limb limb_1_2 (fun args s t => Cond.after_iff.mpr (by
  first | (rw [show limb_1_2 = Cond.eq .result (.int 1) from rfl, Cond.eq_ints (x := 1) (y := 1) rfl rfl]; simp; done) | (simp [limb_1_2, Cond.value, Term.eval]; done)))⟩


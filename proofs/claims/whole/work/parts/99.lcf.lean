/-! the lost share: a number, and its bits, wherever the accounts of gas hold -/
theorem fl_no {x : UInt32} (h : FP.Core.val32 x ≠ .nan) : x &&& 0x7fffffff ≤ 0x7f800000 := by
  rw [UInt32.le_iff_toNat_le, UInt32.toNat_and]
  have h1 : (0x7fffffff : UInt32).toNat = 2 ^ 31 - 1 := by decide
  have h2 : (0x7f800000 : UInt32).toNat = 2139095040 := by decide
  rw [h1, h2, Nat.and_two_pow_sub_one_eq_mod]
  have h3 : ¬ FP.Core.fIsNaN x = true := fun q => h ((FP.Core.fIsNaN_iff x).mp q)
  rw [FP.Core.isNaN_bits32] at h3
  omega
theorem dl_no {x : UInt64} (h : ¬ FP.Core.dIsNaN x = true) : x &&& 0x7fffffffffffffff ≤ 0x7ff0000000000000 := by
  rw [UInt64.le_iff_toNat_le, UInt64.toNat_and]
  have h1 : (0x7fffffffffffffff : UInt64).toNat = 2 ^ 63 - 1 := by decide
  have h2 : (0x7ff0000000000000 : UInt64).toNat = 9218868437227405312 := by decide
  rw [h1, h2, Nat.and_two_pow_sub_one_eq_mod]
  rw [FP.Core.isNaN_bits] at h
  omega
theorem fl_vfc {x : UInt32} (h : FP.Core.val32 x ≠ .nan) : vfc x = true := decide_eq_true (fl_no h)
theorem fl_d {x : UInt32} (h : FP.Core.val32 x ≠ .nan) : vf_n64 (FP.f2d x) := dl_no (fun q => by
  rw [show FP.Core.dIsNaN (FP.f2d x) = FP.Core.fIsNaN x from FP.f2d_nan x] at q
  exact h ((FP.Core.fIsNaN_iff x).mp q))
theorem c1_val : FP.Core.val32 FP.fconst1 = .fin false (2 ^ 23) (-23) := FP.Core.val32_fconst1
theorem c0_val : FP.Core.val32 FP.fconst0 = .fin false 0 FP.Core.b32.qmin := FP.Core.val32_fconst0
theorem rr_ne (f : FP.Core.Fmt) (s : Bool) (A B : Nat) (e : Int) : FP.Core.roundRatio f s A B e ≠ .nan := by
  unfold FP.Core.roundRatio FP.Core.roundAt FP.Core.settle FP.Core.bound
  split
  · intro h; cases h
  · split
    · split <;> intro h <;> cases h
    · split <;> intro h <;> cases h
/-- a positive number below 2^24, with 24 digits -/
theorem two_k : ∀ (d N : Nat), 0 < N → N < 2 ^ 24 → 2 ^ 24 ≤ N + d → ∃ k, 2 ^ 23 ≤ N * 2 ^ k ∧ N * 2 ^ k < 2 ^ 24 := by
  intro d
  induction d with
  | zero => intro N h1 h2 h3; omega
  | succ d ih =>
    intro N h1 h2 h3
    by_cases h : 2 ^ 23 ≤ N
    · exact ⟨0, by omega, by omega⟩
    · obtain ⟨k, h4, h5⟩ := ih (2 * N) (by omega) (by omega) (by omega)
      have e9 : N * 2 ^ (k + 1) = 2 * N * 2 ^ k := by
        rw [Nat.pow_succ, Nat.mul_comm (2 ^ k) 2, ← Nat.mul_assoc, Nat.mul_comm N 2]
      exact ⟨k + 1, by rw [e9]; exact h4, by rw [e9]; exact h5⟩
theorem two_k23 {N k : Nat} (h1 : 0 < N) (h2 : N * 2 ^ k < 2 ^ 24) : k ≤ 23 := by
  have h3 : 2 ^ k ≤ N * 2 ^ k := Nat.le_mul_of_pos_left _ h1
  have h4 : 2 ^ k < 2 ^ 24 := Nat.lt_of_le_of_lt h3 h2
  have := (Nat.pow_lt_pow_iff_right (by decide : 1 < 2)).mp h4
  omega
theorem i2f_val {n : Int32} {N : Nat} (h : n.toInt = (N : Int)) (h1 : 0 < N) (h2 : N < 2 ^ 24) : ∃ k : Nat, k ≤ 23 ∧ 2 ^ 23 ≤ N * 2 ^ k ∧ FP.Core.val32 (FP.i2f n) = .fin false (N * 2 ^ k) (-(k : Int)) := by
  obtain ⟨k, h3, h4⟩ := two_k (2 ^ 24) N h1 h2 (by omega)
  have hk := two_k23 h1 h4
  refine ⟨k, hk, h3, ?_⟩
  have e1 : FP.Core.val32 (FP.i2f n) = FP.Core.round FP.Core.b32 (FP.Core.ofInt n.toInt) := FP.Core.val32_i2f n
  rw [e1, h]
  have e2 : FP.Core.ofInt (N : Int) = .fin false N 0 := by
    unfold FP.Core.ofInt
    rw [decide_eq_false (by omega : ¬ (N : Int) < 0)]
    rfl
  rw [e2]
  show FP.Core.roundRatio FP.Core.b32 false N 1 0 = _
  refine FP.Core.roundRatio_exact FP.Core.good_b32 (by decide) ?_ ?_
  · have q1 : FP.Core.b32.qmin = -149 := by decide
    have q2 : FP.Core.b32.qmax = 104 := by decide
    have q3 : FP.Core.b32.tails = 2 ^ 23 := by decide
    exact ⟨h4, by rw [q1]; omega, by rw [q2]; omega, Or.inr (by rw [q3]; exact h3)⟩
  · rw [show (0 - -(k : Int)).toNat = k by omega, show (-(k : Int) - 0).toNat = 0 by omega]
    simp
/-- a share of two whole numbers is a number of 24 digits -/
theorem rr_val {a b : Nat} (ha : 0 < a) (hab : a ≤ b) (hb : b < 2 ^ 24) : ∃ (c : Nat) (j : Nat), j ≤ 24 ∧ 2 ^ 23 ≤ c ∧ c < 2 ^ 24 ∧ FP.Core.roundRatio FP.Core.b32 false a b 0 = .fin false c (-23 - (j : Int)) := by
  have hb0 : 0 < b := by omega
  have q1 : FP.Core.b32.qmin = -149 := by decide
  have q2 : FP.Core.b32.qmax = 104 := by decide
  have q3 : FP.Core.b32.tails = 2 ^ 23 := by decide
  have q4 : ((FP.Core.b32.p : Nat) : Int) = 24 := by decide
  obtain ⟨Q, hQ⟩ : ∃ Q, Q = FP.Core.quantum FP.Core.b32 a b 0 := ⟨_, rfl⟩
  have b1 := FP.Core.quantum_below (f := FP.Core.b32) ha hb0 0
  have b2 := FP.Core.quantum_not_below (f := FP.Core.b32) ha hb0 0
  rw [← hQ, q4, q1] at b2
  rw [← hQ, q4] at b1
  have lo : -47 ≤ Q := Classical.byContradiction fun h => by
    have b3 : FP.Core.Below a b (-24) := FP.Core.below_mono (by omega) b1
    unfold FP.Core.Below at b3
    rw [show (-(-24 : Int)).toNat = 24 by decide, show (-24 : Int).toNat = 0 by decide, Nat.pow_zero, Nat.mul_one] at b3
    have : 2 ^ 24 ≤ a * 2 ^ 24 := Nat.le_mul_of_pos_left _ ha
    omega
  have hi : Q ≤ -23 := Classical.byContradiction fun h => by
    rcases b2 with b2 | b2
    · omega
    · refine b2 (FP.Core.below_mono (a := 1) (by omega) ?_)
      unfold FP.Core.Below
      rw [show (-(1 : Int)).toNat = 0 by decide, show (1 : Int).toNat = 1 by decide, Nat.pow_zero, Nat.mul_one, Nat.pow_one]
      omega
  have hf := FP.Core.roundRatio_fits FP.Core.good_b32 false a hb0 0
  have hn := rr_ne FP.Core.b32 false a b 0
  have hle := FP.Core.nearest_units_le (f := FP.Core.b32) ha hb0 0
  have e : FP.Core.roundRatio FP.Core.b32 false a b 0 = FP.Core.settle FP.Core.b32 false (FP.Core.nearest (FP.Core.unitsNum a 0 Q) (FP.Core.unitsDen b 0 Q)) Q := by
    unfold FP.Core.roundRatio
    rw [if_neg (by omega), ← hQ]
    rfl
  rw [← hQ] at hle
  have hle2 : Q = -23 → FP.Core.nearest (FP.Core.unitsNum a 0 Q) (FP.Core.unitsDen b 0 Q) ≤ 2 ^ 23 := fun h9 => by
    subst h9
    refine FP.Core.nearest_le (FP.Core.unitsDen_pos hb0 _ _) ?_
    unfold FP.Core.unitsNum FP.Core.unitsDen
    rw [show ((0 : Int) - -23).toNat = 23 by decide, show ((-23 : Int) - 0).toNat = 0 by decide, Nat.pow_zero, Nat.mul_one, Nat.mul_comm]
    exact Nat.mul_le_mul_left _ hab
  generalize FP.Core.nearest (FP.Core.unitsNum a 0 Q) (FP.Core.unitsDen b 0 Q) = M at e hle hle2
  unfold FP.Core.settle at e
  by_cases hM : M < 2 ^ FP.Core.b32.p
  · rw [if_pos hM] at e
    unfold FP.Core.bound at e
    rw [if_pos (by rw [q2]; omega)] at e
    rw [e] at hf
    obtain ⟨f1, f2, f3, f4⟩ := hf
    rw [q1, q3] at f4
    refine ⟨M, (-23 - Q).toNat, by omega, ?_, hM, by rw [e, show -23 - ((-23 - Q).toNat : Int) = Q by omega]⟩
    rcases f4 with f4 | f4
    · omega
    · exact f4
  · rw [if_neg hM] at e
    unfold FP.Core.bound at e
    rw [if_pos (by rw [q2]; omega)] at e
    by_cases hQ2 : Q = -23
    · exfalso
      have h9 := hle2 hQ2
      have h8 : FP.Core.b32.p = 24 := by decide
      rw [h8] at hM
      omega
    · refine ⟨2 ^ 23, (-23 - (Q + 1)).toNat, by omega, by omega, by omega, by rw [e, q3, show -23 - ((-23 - (Q + 1)).toNat : Int) = Q + 1 by omega]⟩
theorem dbl_val {v : UInt32} {c : Nat} {q : Int} (h : FP.Core.val32 v = .fin false c q) (h1 : 2 ^ 23 ≤ c) (h2 : c < 2 ^ 24) (h3 : -100 ≤ q) (h4 : q ≤ 50) : FP.Core.val32 (FP.fmul v FP.fconst2) = .fin false c (q + 1) := by
  have e1 : FP.Core.val32 (FP.fmul v FP.fconst2) = FP.Core.round FP.Core.b32 (FP.Core.exactProduct (FP.Core.val32 v) (FP.Core.val32 FP.fconst2)) := FP.Core.val32_fmul v _
  have e2 : FP.Core.val32 FP.fconst2 = .fin false (2 ^ 23) (-22) := by decide +kernel
  rw [e1, e2, h]
  show FP.Core.roundRatio FP.Core.b32 false (c * 2 ^ 23) 1 (q + -22) = _
  have q1 : FP.Core.b32.qmin = -149 := by decide
  have q2 : FP.Core.b32.qmax = 104 := by decide
  have q3 : FP.Core.b32.tails = 2 ^ 23 := by decide
  refine FP.Core.roundRatio_exact FP.Core.good_b32 (by decide) ⟨h2, by rw [q1]; omega, by rw [q2]; omega, Or.inr (by rw [q3]; exact h1)⟩ ?_
  rw [show (q + -22 - (q + 1)).toNat = 0 by omega, show (q + 1 - (q + -22)).toNat = 23 by omega, Nat.pow_zero, Nat.mul_one, Nat.mul_one]
theorem one_ge {v : UInt32} {c : Nat} (h : FP.Core.val32 v = .fin false c (-23)) (h1 : 2 ^ 23 ≤ c) : 0 ≤ Op.cmpValue (FP.fcmp v FP.fconst1) CmpOp.g := by
  have e : FP.fcmp v FP.fconst1 = FP.Core.order (FP.Core.val32 v) (FP.Core.val32 FP.fconst1) := rfl
  rw [e, h, c1_val]
  have e2 : FP.Core.order (.fin false c (-23)) (.fin false (2 ^ 23) (-23)) = some (compare (c : Int) ((2 ^ 23 : Nat) : Int)) := by
    show some (compare (FP.Core.signed false (FP.Core.inUnits c (-23) (min (-23) (-23)))) (FP.Core.signed false (FP.Core.inUnits (2 ^ 23) (-23) (min (-23) (-23))))) = _
    have e3 : ∀ x : Nat, FP.Core.inUnits x (-23) (min (-23) (-23)) = x := fun x => by
      unfold FP.Core.inUnits
      rw [show ((-23 : Int) - min (-23) (-23)).toNat = 0 by decide, Nat.pow_zero, Nat.mul_one]
    rw [e3, e3]
    rfl
  rw [e2]
  by_cases hc : c = 2 ^ 23
  · subst hc
    rw [FP.Core.compare_self_int]
    decide
  · have e4 : compare (c : Int) ((2 ^ 23 : Nat) : Int) = .gt := by
      simp only [compare, compareOfLessAndEq]
      rw [if_neg (by omega), if_neg (by omega)]
    rw [e4]
    decide
theorem one_lt {v : UInt32} {c : Nat} {j : Nat} (h : FP.Core.val32 v = .fin false c (-23 - ((j + 1 : Nat) : Int))) (h2 : c < 2 ^ 24) : ¬ 0 ≤ Op.cmpValue (FP.fcmp v FP.fconst1) CmpOp.g := by
  have e : FP.fcmp v FP.fconst1 = FP.Core.order (FP.Core.val32 v) (FP.Core.val32 FP.fconst1) := rfl
  rw [e, h, c1_val]
  have e2 : FP.Core.order (.fin false c (-23 - ((j + 1 : Nat) : Int))) (.fin false (2 ^ 23) (-23)) = some (compare (c : Int) ((2 ^ 23 * 2 ^ (j + 1) : Nat) : Int)) := by
    show some (compare (FP.Core.signed false (FP.Core.inUnits c (-23 - ((j + 1 : Nat) : Int)) (min (-23 - ((j + 1 : Nat) : Int)) (-23)))) (FP.Core.signed false (FP.Core.inUnits (2 ^ 23) (-23) (min (-23 - ((j + 1 : Nat) : Int)) (-23))))) = _
    have e3 : min (-23 - ((j + 1 : Nat) : Int)) (-23) = -23 - ((j + 1 : Nat) : Int) := by omega
    rw [e3]
    unfold FP.Core.inUnits
    rw [show (-23 - ((j + 1 : Nat) : Int) - (-23 - ((j + 1 : Nat) : Int))).toNat = 0 by omega, show (-23 - (-23 - ((j + 1 : Nat) : Int))).toNat = j + 1 by omega, Nat.pow_zero, Nat.mul_one]
    rfl
  rw [e2]
  have h5 : 2 ^ 24 ≤ 2 ^ 23 * 2 ^ (j + 1) := by
    rw [Nat.pow_succ]
    have := Nat.two_pow_pos j
    omega
  have e4 : compare (c : Int) ((2 ^ 23 * 2 ^ (j + 1) : Nat) : Int) = .lt := by
    simp only [compare, compareOfLessAndEq]
    rw [if_pos (by omega)]
  rw [e4]
  decide
theorem fb_val : ∀ (j f : Nat) (v : UInt32) (c : Nat), j < f → j ≤ 24 → 2 ^ 23 ≤ c → c < 2 ^ 24 → FP.Core.val32 v = .fin false c (-23 - (j : Int)) → fbO f v = true ∧ FP.Core.val32 (fbR f v) = .fin false c (-23) := by
  intro j
  induction j with
  | zero =>
    intro f v c hf hj h1 h2 h
    obtain ⟨g, rfl⟩ : ∃ g, f = g + 1 := ⟨f - 1, by omega⟩
    have h : FP.Core.val32 v = .fin false c (-23) := h
    have h5 := one_ge h h1
    exact ⟨by unfold fbO; rw [if_pos h5], by unfold fbR; rw [if_pos h5]; exact h⟩
  | succ j ih =>
    intro f v c hf hj h1 h2 h
    obtain ⟨g, rfl⟩ : ∃ g, f = g + 1 := ⟨f - 1, by omega⟩
    have h5 := one_lt h h2
    have h6 := dbl_val h h1 h2 (by omega) (by omega)
    rw [show -23 - ((j + 1 : Nat) : Int) + 1 = -23 - (j : Int) by omega] at h6
    obtain ⟨i1, i2⟩ := ih g (FP.fmul v FP.fconst2) c (by omega) (by omega) h1 h2 h6
    refine ⟨?_, ?_⟩
    · unfold fbO
      rw [if_neg h5, i1, Bool.and_true]
      exact fl_vfc (by rw [h6]; intro q; cases q)
    · unfold fbR
      rw [if_neg h5]
      exact i2
theorem sub_ne {w : UInt32} {c : Nat} {q : Int} (h : FP.Core.val32 w = .fin false c q) : FP.Core.val32 (FP.fsub w FP.fconst1) ≠ .nan := by
  have e1 : FP.Core.val32 (FP.fsub w FP.fconst1) = FP.Core.round FP.Core.b32 (FP.Core.exactSum (FP.Core.val32 w) (FP.Core.negate (FP.Core.val32 FP.fconst1))) := FP.Core.val32_fsub w _
  rw [e1, h, c1_val]
  exact rr_ne _ _ _ _ _
theorem mul_ne {w : UInt32} (h : FP.Core.val32 w ≠ .nan) : FP.Core.val32 (FP.fmul w f23) ≠ .nan := by
  have e1 : FP.Core.val32 (FP.fmul w f23) = FP.Core.round FP.Core.b32 (FP.Core.exactProduct (FP.Core.val32 w) (FP.Core.val32 f23)) := FP.Core.val32_fmul w _
  have e2 : FP.Core.val32 f23 = .fin false (2 ^ 23) 0 := by decide +kernel
  rw [e1, e2]
  cases hw : FP.Core.val32 w with
  | nan => exact absurd hw h
  | inf s => intro q; cases s <;> cases q
  | fin s c q => exact rr_ne _ _ _ _ _
theorem gt_0 {v : UInt32} {c : Nat} {q : Int} (h : FP.Core.val32 v = .fin false c q) (h1 : 0 < c) (h3 : -149 ≤ q) : FP.fcmp v FP.fconst0 = some .gt := by
  have e : FP.fcmp v FP.fconst0 = FP.Core.order (FP.Core.val32 v) (FP.Core.val32 FP.fconst0) := rfl
  rw [e, h, c0_val]
  have e2 : FP.Core.order (.fin false c q) (.fin false 0 FP.Core.b32.qmin) = some (compare ((c * 2 ^ (q + 149).toNat : Nat) : Int) 0) := by
    have q1 : FP.Core.b32.qmin = -149 := by decide
    rw [q1]
    show some (compare (FP.Core.signed false (FP.Core.inUnits c q (min q (-149)))) (FP.Core.signed false (FP.Core.inUnits 0 (-149) (min q (-149))))) = _
    rw [show min q (-149) = -149 by omega]
    unfold FP.Core.inUnits
    rw [Nat.zero_mul, show q - -149 = q + 149 by omega]
    rfl
  rw [e2]
  have h5 : 0 < c * 2 ^ (q + 149).toNat := Nat.mul_pos h1 (Nat.two_pow_pos _)
  have e4 : compare ((c * 2 ^ (q + 149).toNat : Nat) : Int) 0 = .gt := by
    simp only [compare, compareOfLessAndEq]
    rw [if_neg (by omega), if_neg (by omega)]
  rw [e4]
theorem okF_val {v : UInt32} {c j : Nat} (hj : j ≤ 24) (h1 : 2 ^ 23 ≤ c) (h2 : c < 2 ^ 24) (h : FP.Core.val32 v = .fin false c (-23 - (j : Int))) : okF v = true := by
  obtain ⟨i1, i2⟩ := fb_val j 120 v c (by omega) hj h1 h2 h
  have g := gt_0 h (by omega) (by omega)
  have s1 := sub_ne i2
  have s2 := mul_ne s1
  unfold okF
  rw [Bool.or_eq_true]
  refine Or.inr ?_
  rw [Bool.and_eq_true, Bool.and_eq_true, Bool.and_eq_true]
  refine ⟨decide_eq_true ?_, i1, fl_vfc s1, fl_vfc s2⟩
  rw [g]
  decide
theorem okF_0 {v : UInt32} (h : FP.Core.val32 v = .fin false 0 FP.Core.b32.qmin) : okF v = true := by
  have e : FP.fcmp v FP.fconst0 = FP.Core.order (FP.Core.val32 v) (FP.Core.val32 FP.fconst0) := rfl
  have e2 : FP.fcmp v FP.fconst0 = some .eq := by
    rw [e, h, c0_val]
    decide +kernel
  unfold okF
  rw [Bool.or_eq_true]
  refine Or.inl (decide_eq_true ?_)
  rw [e2]
  decide
theorem ls_val {x y : Int32} {a b : Nat} (hx : x.toInt = (a : Int)) (hy : y.toInt = (b : Int)) (hab : a ≤ b) (hb0 : 0 < b) (hb : b < 2 ^ 24) : FP.Core.val32 (FP.fdiv (FP.i2f x) (FP.i2f y)) ≠ .nan ∧ okF (FP.fdiv (FP.i2f x) (FP.i2f y)) = true := by
  have e0 : FP.Core.val32 (FP.fdiv (FP.i2f x) (FP.i2f y)) = FP.Core.quotient FP.Core.b32 (FP.Core.val32 (FP.i2f x)) (FP.Core.val32 (FP.i2f y)) := FP.Core.val32_fdiv _ _
  obtain ⟨m, hm, hm2, em⟩ := i2f_val hy hb0 hb
  have hB : 0 < b * 2 ^ m := Nat.mul_pos hb0 (Nat.two_pow_pos _)
  by_cases ha : a = 0
  · subst ha
    have ex : FP.Core.val32 (FP.i2f x) = .fin false 0 FP.Core.b32.qmin := by
      have e1 : FP.Core.val32 (FP.i2f x) = FP.Core.round FP.Core.b32 (FP.Core.ofInt x.toInt) := FP.Core.val32_i2f x
      rw [e1, hx]
      decide +kernel
    have ev : FP.Core.val32 (FP.fdiv (FP.i2f x) (FP.i2f y)) = .fin false 0 FP.Core.b32.qmin := by
      rw [e0, ex, em]
      show (if b * 2 ^ m = 0 then _ else FP.Core.roundRatio FP.Core.b32 (false != false) 0 (b * 2 ^ m) _) = _
      rw [if_neg (by omega)]
      rfl
    exact ⟨(by rw [ev]; intro q; cases q), okF_0 ev⟩
  · obtain ⟨k, hk, hk2, ek⟩ := i2f_val hx (by omega) (by omega)
    have ev : FP.Core.val32 (FP.fdiv (FP.i2f x) (FP.i2f y)) = FP.Core.roundRatio FP.Core.b32 false a b 0 := by
      rw [e0, ek, em]
      show (if b * 2 ^ m = 0 then _ else FP.Core.roundRatio FP.Core.b32 (false != false) (a * 2 ^ k) (b * 2 ^ m) (-(k : Int) - -(m : Int))) = _
      rw [if_neg (by omega)]
      refine FP.Core.roundRatio_congr hB hb0 ?_
      have e9 : ∀ u w : Nat, a * 2 ^ k * b * 2 ^ u = a * (b * 2 ^ m) * 2 ^ w ↔ a * b * 2 ^ (k + u) = a * b * 2 ^ (m + w) := fun u w => by
        rw [Nat.pow_add, Nat.pow_add]
        constructor <;> intro h <;> simp only [Nat.mul_comm, Nat.mul_assoc, Nat.mul_left_comm] at h ⊢ <;> exact h
      rw [e9]
      rw [show k + (-(k : Int) - -(m : Int) - 0).toNat = m + (0 - (-(k : Int) - -(m : Int))).toNat by omega]
    obtain ⟨c, j, hj, h1, h2, ec⟩ := rr_val (by omega) hab hb
    rw [ec] at ev
    exact ⟨(by rw [ev]; intro q; cases q), okF_val hj h1 h2 ev⟩
theorem FL_of {t : Nat} {S : Nat → Nat → Int32} (ht : t < 600) (h : GD t S) : FLT S := by
  obtain ⟨hO, ⟨a1, a2⟩, a3, a4, a5⟩ := h
  have gn := gs_nn (f := S 0) 8 (fun j hj => (hO.1.1 j hj).1.1)
  have f1 : (S 12 2 + S 12 3).toInt = (S 12 2).toInt + (S 12 3).toInt := i_add (by omega) (by omega) (by omega) (by omega)
  have f0 : (480 : Int32).toInt = 480 := by decide
  have f2 : (480 + S 12 1).toInt = 480 + (S 12 1).toInt := by rw [i_add (by omega) (by omega) (by omega) (by omega), f0]
  have q := ls_val (x := S 12 2 + S 12 3) (y := 480 + S 12 1) (a := ((S 12 2).toInt + (S 12 3).toInt).toNat) (b := (480 + (S 12 1).toInt).toNat) (by omega) (by omega) (by omega) (by omega) (by omega)
  exact ⟨fl_no q.1, q.2, fl_d q.1⟩

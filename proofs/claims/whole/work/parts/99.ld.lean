/-! the lost share: a number, and its bits, wherever the accounts of gas hold -/
theorem fl_no {x : UInt32} (h : FP.Core.val32 x ≠ .nan) : x &&& 0x7fffffff ≤ 0x7f800000 := by
  rw [UInt32.le_iff_toNat_le, UInt32.toNat_and]
  have h1 : (0x7fffffff : UInt32).toNat = 2 ^ 31 - 1 := by decide
  have h2 : (0x7f800000 : UInt32).toNat = 2139095040 := by decide
  rw [h1, h2, Nat.and_two_pow_sub_one_eq_mod]
  have h3 : ¬ FP.Core.fIsNaN x = true := fun q => h ((FP.Core.fIsNaN_iff x).mp q)
  rw [FP.Core.isNaN_bits32] at h3
  omega
theorem dl_no {x : UInt64} (h : ¬ FP.Core.dIsNaN x = true) : x &&& 0x7fffffffffffffff ≤ 0x7ff0000000000000 := by
  rw [UInt64.le_iff_toNat_le, UInt64.toNat_and]
  have h1 : (0x7fffffffffffffff : UInt64).toNat = 2 ^ 63 - 1 := by decide
  have h2 : (0x7ff0000000000000 : UInt64).toNat = 9218868437227405312 := by decide
  rw [h1, h2, Nat.and_two_pow_sub_one_eq_mod]
  rw [FP.Core.isNaN_bits] at h
  omega
theorem fl_vfc {x : UInt32} (h : FP.Core.val32 x ≠ .nan) : vfc x = true := decide_eq_true (fl_no h)
theorem fl_d {x : UInt32} (h : FP.Core.val32 x ≠ .nan) : vf_n64 (FP.f2d x) := dl_no (fun q => by
  rw [show FP.Core.dIsNaN (FP.f2d x) = FP.Core.fIsNaN x from FP.f2d_nan x] at q
  exact h ((FP.Core.fIsNaN_iff x).mp q))
theorem c1_val : FP.Core.val32 FP.fconst1 = .fin false (2 ^ 23) (-23) := FP.Core.val32_fconst1
theorem c0_val : FP.Core.val32 FP.fconst0 = .fin false 0 FP.Core.b32.qmin := FP.Core.val32_fconst0
theorem rr_ne (f : FP.Core.Fmt) (s : Bool) (A B : Nat) (e : Int) : FP.Core.roundRatio f s A B e ≠ .nan := by
  unfold FP.Core.roundRatio FP.Core.roundAt FP.Core.settle FP.Core.bound
  split
  · intro h; cases h
  · split
    · split <;> intro h <;> cases h
    · split <;> intro h <;> cases h
/-- a positive number below 2^24, with 24 digits -/
theorem two_k : ∀ (d N : Nat), 0 < N → N < 2 ^ 24 → 2 ^ 24 ≤ N + d → ∃ k, 2 ^ 23 ≤ N * 2 ^ k ∧ N * 2 ^ k < 2 ^ 24 := by
  intro d
  induction d with
  | zero => intro N h1 h2 h3; omega
  | succ d ih =>
    intro N h1 h2 h3
    by_cases h : 2 ^ 23 ≤ N
    · exact ⟨0, by omega, by omega⟩
    · obtain ⟨k, h4, h5⟩ := ih (2 * N) (by omega) (by omega) (by omega)
      have e9 : N * 2 ^ (k + 1) = 2 * N * 2 ^ k := by
        rw [Nat.pow_succ, Nat.mul_comm (2 ^ k) 2, ← Nat.mul_assoc, Nat.mul_comm N 2]
      exact ⟨k + 1, by rw [e9]; exact h4, by rw [e9]; exact h5⟩
theorem two_k23 {N k : Nat} (h1 : 0 < N) (h2 : N * 2 ^ k < 2 ^ 24) : k ≤ 23 := by
  have h3 : 2 ^ k ≤ N * 2 ^ k := Nat.le_mul_of_pos_left _ h1
  have h4 : 2 ^ k < 2 ^ 24 := Nat.lt_of_le_of_lt h3 h2
  have := (Nat.pow_lt_pow_iff_right (by decide : 1 < 2)).mp h4
  omega
theorem i2f_val {n : Int32} {N : Nat} (h : n.toInt = (N : Int)) (h1 : 0 < N) (h2 : N < 2 ^ 24) : ∃ k : Nat, k ≤ 23 ∧ 2 ^ 23 ≤ N * 2 ^ k ∧ FP.Core.val32 (FP.i2f n) = .fin false (N * 2 ^ k) (-(k : Int)) := by
  obtain ⟨k, h3, h4⟩ := two_k (2 ^ 24) N h1 h2 (by omega)
  have hk := two_k23 h1 h4
  refine ⟨k, hk, h3, ?_⟩
  have e1 : FP.Core.val32 (FP.i2f n) = FP.Core.round FP.Core.b32 (FP.Core.ofInt n.toInt) := FP.Core.val32_i2f n
  rw [e1, h]
  have e2 : FP.Core.ofInt (N : Int) = .fin false N 0 := by
    unfold FP.Core.ofInt
    rw [decide_eq_false (by omega : ¬ (N : Int) < 0)]
    rfl
  rw [e2]
  show FP.Core.roundRatio FP.Core.b32 false N 1 0 = _
  refine FP.Core.roundRatio_exact FP.Core.good_b32 (by decide) ?_ ?_
  · have q1 : FP.Core.b32.qmin = -149 := by decide
    have q2 : FP.Core.b32.qmax = 104 := by decide
    have q3 : FP.Core.b32.tails = 2 ^ 23 := by decide
    exact ⟨h4, by rw [q1]; omega, by rw [q2]; omega, Or.inr (by rw [q3]; exact h3)⟩
  · rw [show (0 - -(k : Int)).toNat = k by omega, show (-(k : Int) - 0).toNat = 0 by omega]
    simp
/-- a share of two whole numbers is a number of 24 digits -/
theorem rr_val {a b : Nat} (ha : 0 < a) (hab : a ≤ b) (hb : b < 2 ^ 24) : ∃ (c : Nat) (j : Nat), j ≤ 24 ∧ 2 ^ 23 ≤ c ∧ c < 2 ^ 24 ∧ FP.Core.roundRatio FP.Core.b32 false a b 0 = .fin false c (-23 - (j : Int)) := by
  have hb0 : 0 < b := by omega
  have q1 : FP.Core.b32.qmin = -149 := by decide
  have q2 : FP.Core.b32.qmax = 104 := by decide
  have q3 : FP.Core.b32.tails = 2 ^ 23 := by decide
  have q4 : ((FP.Core.b32.p : Nat) : Int) = 24 := by decide
  obtain ⟨Q, hQ⟩ : ∃ Q, Q = FP.Core.quantum FP.Core.b32 a b 0 := ⟨_, rfl⟩
  have b1 := FP.Core.quantum_below (f := FP.Core.b32) ha hb0 0
  have b2 := FP.Core.quantum_not_below (f := FP.Core.b32) ha hb0 0
  rw [← hQ, q4, q1] at b2
  rw [← hQ, q4] at b1
  have lo : -47 ≤ Q := Classical.byContradiction fun h => by
    have b3 : FP.Core.Below a b (-24) := FP.Core.below_mono (by omega) b1
    unfold FP.Core.Below at b3
    rw [show (-(-24 : Int)).toNat = 24 by decide, show (-24 : Int).toNat = 0 by decide, Nat.pow_zero, Nat.mul_one] at b3
    have : 2 ^ 24 ≤ a * 2 ^ 24 := Nat.le_mul_of_pos_left _ ha
    omega
  have hi : Q ≤ -23 := Classical.byContradiction fun h => by
    rcases b2 with b2 | b2
    · omega
    · refine b2 (FP.Core.below_mono (a := 1) (by omega) ?_)
      unfold FP.Core.Below
      rw [show (-(1 : Int)).toNat = 0 by decide, show (1 : Int).toNat = 1 by decide, Nat.pow_zero, Nat.mul_one, Nat.pow_one]
      omega
  have hf := FP.Core.roundRatio_fits FP.Core.good_b32 false a hb0 0
  have hn := rr_ne FP.Core.b32 false a b 0
  have hle := FP.Core.nearest_units_le (f := FP.Core.b32) ha hb0 0
  have e : FP.Core.roundRatio FP.Core.b32 false a b 0 = FP.Core.settle FP.Core.b32 false (FP.Core.nearest (FP.Core.unitsNum a 0 Q) (FP.Core.unitsDen b 0 Q)) Q := by
    unfold FP.Core.roundRatio
    rw [if_neg (by omega), ← hQ]
    rfl
  rw [← hQ] at hle
  have hle2 : Q = -23 → FP.Core.nearest (FP.Core.unitsNum a 0 Q) (FP.Core.unitsDen b 0 Q) ≤ 2 ^ 23 := fun h9 => by
    subst h9
    refine FP.Core.nearest_le (FP.Core.unitsDen_pos hb0 _ _) ?_
    unfold FP.Core.unitsNum FP.Core.unitsDen
    rw [show ((0 : Int) - -23).toNat = 23 by decide, show ((-23 : Int) - 0).toNat = 0 by decide, Nat.pow_zero, Nat.mul_one, Nat.mul_comm]
    exact Nat.mul_le_mul_left _ hab
  generalize FP.Core.nearest (FP.Core.unitsNum a 0 Q) (FP.Core.unitsDen b 0 Q) = M at e hle hle2
  unfold FP.Core.settle at e
  by_cases hM : M < 2 ^ FP.Core.b32.p
  · rw [if_pos hM] at e
    unfold FP.Core.bound at e
    rw [if_pos (by rw [q2]; omega)] at e
    rw [e] at hf
    obtain ⟨f1, f2, f3, f4⟩ := hf
    rw [q1, q3] at f4
    refine ⟨M, (-23 - Q).toNat, by omega, ?_, hM, by rw [e, show -23 - ((-23 - Q).toNat : Int) = Q by omega]⟩
    rcases f4 with f4 | f4
    · omega
    · exact f4
  · rw [if_neg hM] at e
    unfold FP.Core.bound at e
    rw [if_pos (by rw [q2]; omega)] at e
    by_cases hQ2 : Q = -23
    · exfalso
      have h9 := hle2 hQ2
      have h8 : FP.Core.b32.p = 24 := by decide
      rw [h8] at hM
      omega
    · refine ⟨2 ^ 23, (-23 - (Q + 1)).toNat, by omega, by omega, by omega, by rw [e, q3, show -23 - ((-23 - (Q + 1)).toNat : Int) = Q + 1 by omega]⟩
theorem dbl_val {v : UInt32} {c : Nat} {q : Int} (h : FP.Core.val32 v = .fin false c q) (h1 : 2 ^ 23 ≤ c) (h2 : c < 2 ^ 24) (h3 : -100 ≤ q) (h4 : q ≤ 50) : FP.Core.val32 (FP.fmul v FP.fconst2) = .fin false c (q + 1) := by
  have e1 : FP.Core.val32 (FP.fmul v FP.fconst2) = FP.Core.round FP.Core.b32 (FP.Core.exactProduct (FP.Core.val32 v) (FP.Core.val32 FP.fconst2)) := FP.Core.val32_fmul v _
  have e2 : FP.Core.val32 FP.fconst2 = .fin false (2 ^ 23) (-22) := by decide +kernel
  rw [e1, e2, h]
  show FP.Core.roundRatio FP.Core.b32 false (c * 2 ^ 23) 1 (q + -22) = _
  have q1 : FP.Core.b32.qmin = -149 := by decide
  have q2 : FP.Core.b32.qmax = 104 := by decide
  have q3 : FP.Core.b32.tails = 2 ^ 23 := by decide
  refine FP.Core.roundRatio_exact FP.Core.good_b32 (by decide) ⟨h2, by rw [q1]; omega, by rw [q2]; omega, Or.inr (by rw [q3]; exact h1)⟩ ?_
  rw [show (q + -22 - (q + 1)).toNat = 0 by omega, show (q + 1 - (q + -22)).toNat = 23 by omega, Nat.pow_zero, Nat.mul_one, Nat.mul_one]
theorem one_ge {v : UInt32} {c : Nat} (h : FP.Core.val32 v = .fin false c (-23)) (h1 : 2 ^ 23 ≤ c) : 0 ≤ Op.cmpValue (FP.fcmp v FP.fconst1) CmpOp.g := by
  have e : FP.fcmp v FP.fconst1 = FP.Core.order (FP.Core.val32 v) (FP.Core.val32 FP.fconst1) := rfl
  rw [e, h, c1_val]
  have e2 : FP.Core.order (.fin false c (-23)) (.fin false (2 ^ 23) (-23)) = some (compare (c : Int) ((2 ^ 23 : Nat) : Int)) := by
    show some (compare (FP.Core.signed false (FP.Core.inUnits c (-23) (min (-23) (-23)))) (FP.Core.signed false (FP.Core.inUnits (2 ^ 23) (-23) (min (-23) (-23))))) = _
    have e3 : ∀ x : Nat, FP.Core.inUnits x (-23) (min (-23) (-23)) = x := fun x => by
      unfold FP.Core.inUnits
      rw [show ((-23 : Int) - min (-23) (-23)).toNat = 0 by decide, Nat.pow_zero, Nat.mul_one]
    rw [e3, e3]
    rfl
  rw [e2]
  by_cases hc : c = 2 ^ 23
  · subst hc
    rw [FP.Core.compare_self_int]
    decide
  · have e4 : compare (c : Int) ((2 ^ 23 : Nat) : Int) = .gt := by
      simp only [compare, compareOfLessAndEq]
      rw [if_neg (by omega), if_neg (by omega)]
    rw [e4]
    decide
theorem one_lt {v : UInt32} {c : Nat} {j : Nat} (h : FP.Core.val32 v = .fin false c (-23 - ((j + 1 : Nat) : Int))) (h2 : c < 2 ^ 24) : ¬ 0 ≤ Op.cmpValue (FP.fcmp v FP.fconst1) CmpOp.g := by
  have e : FP.fcmp v FP.fconst1 = FP.Core.order (FP.Core.val32 v) (FP.Core.val32 FP.fconst1) := rfl
  rw [e, h, c1_val]
  have e2 : FP.Core.order (.fin false c (-23 - ((j + 1 : Nat) : Int))) (.fin false (2 ^ 23) (-23)) = some (compare (c : Int) ((2 ^ 23 * 2 ^ (j + 1) : Nat) : Int)) := by
    show some (compare (FP.Core.signed false (FP.Core.inUnits c (-23 - ((j + 1 : Nat) : Int)) (min (-23 - ((j + 1 : Nat) : Int)) (-23)))) (FP.Core.signed false (FP.Core.inUnits (2 ^ 23) (-23) (min (-23 - ((j + 1 : Nat) : Int)) (-23))))) = _
    have e3 : min (-23 - ((j + 1 : Nat) : Int)) (-23) = -23 - ((j + 1 : Nat) : Int) := by omega
    rw [e3]
    unfold FP.Core.inUnits
    rw [show (-23 - ((j + 1 : Nat) : Int) - (-23 - ((j + 1 : Nat) : Int))).toNat = 0 by omega, show (-23 - (-23 - ((j + 1 : Nat) : Int))).toNat = j + 1 by omega, Nat.pow_zero, Nat.mul_one]
    rfl
  rw [e2]
  have h5 : 2 ^ 24 ≤ 2 ^ 23 * 2 ^ (j + 1) := by
    rw [Nat.pow_succ]
    have := Nat.two_pow_pos j
    omega
  have e4 : compare (c : Int) ((2 ^ 23 * 2 ^ (j + 1) : Nat) : Int) = .lt := by
    simp only [compare, compareOfLessAndEq]
    rw [if_pos (by omega)]
  rw [e4]
  decide
theorem fb_val : ∀ (j f : Nat) (v : UInt32) (c : Nat), j < f → j ≤ 24 → 2 ^ 23 ≤ c → c < 2 ^ 24 → FP.Core.val32 v = .fin false c (-23 - (j : Int)) → fbO f v = true ∧ FP.Core.val32 (fbR f v) = .fin false c (-23) := by
  intro j
  induction j with
  | zero =>
    intro f v c hf hj h1 h2 h
    obtain ⟨g, rfl⟩ : ∃ g, f = g + 1 := ⟨f - 1, by omega⟩
    have h : FP.Core.val32 v = .fin false c (-23) := h
    have h5 := one_ge h h1
    exact ⟨by unfold fbO; rw [if_pos h5], by unfold fbR; rw [if_pos h5]; exact h⟩
  | succ j ih =>
    intro f v c hf hj h1 h2 h
    obtain ⟨g, rfl⟩ : ∃ g, f = g + 1 := ⟨f - 1, by omega⟩
    have h5 := one_lt h h2
    have h6 := dbl_val h h1 h2 (by omega) (by omega)
    rw [show -23 - ((j + 1 : Nat) : Int) + 1 = -23 - (j : Int) by omega] at h6
    obtain ⟨i1, i2⟩ := ih g (FP.fmul v FP.fconst2) c (by omega) (by omega) h1 h2 h6
    refine ⟨?_, ?_⟩
    · unfold fbO
      rw [if_neg h5, i1, Bool.and_true]
      exact fl_vfc (by rw [h6]; intro q; cases q)
    · unfold fbR
      rw [if_neg h5]
      exact i2
theorem sub_ne {w : UInt32} {c : Nat} {q : Int} (h : FP.Core.val32 w = .fin false c q) : FP.Core.val32 (FP.fsub w FP.fconst1) ≠ .nan := by
  have e1 : FP.Core.val32 (FP.fsub w FP.fconst1) = FP.Core.round FP.Core.b32 (FP.Core.exactSum (FP.Core.val32 w) (FP.Core.negate (FP.Core.val32 FP.fconst1))) := FP.Core.val32_fsub w _
  rw [e1, h, c1_val]
  exact rr_ne _ _ _ _ _
theorem mul_ne {w : UInt32} (h : FP.Core.val32 w ≠ .nan) : FP.Core.val32 (FP.fmul w f23) ≠ .nan := by
  have e1 : FP.Core.val32 (FP.fmul w f23) = FP.Core.round FP.Core.b32 (FP.Core.exactProduct (FP.Core.val32 w) (FP.Core.val32 f23)) := FP.Core.val32_fmul w _
  have e2 : FP.Core.val32 f23 = .fin false (2 ^ 23) 0 := by decide +kernel
  rw [e1, e2]
  cases hw : FP.Core.val32 w with
  | nan => exact absurd hw h
  | inf s => intro q; cases s <;> cases q
  | fin s c q => exact rr_ne _ _ _ _ _
theorem gt_0 {v : UInt32} {c : Nat} {q : Int} (h : FP.Core.val32 v = .fin false c q) (h1 : 0 < c) (h3 : -149 ≤ q) : FP.fcmp v FP.fconst0 = some .gt := by
  have e : FP.fcmp v FP.fconst0 = FP.Core.order (FP.Core.val32 v) (FP.Core.val32 FP.fconst0) := rfl
  rw [e, h, c0_val]
  have e2 : FP.Core.order (.fin false c q) (.fin false 0 FP.Core.b32.qmin) = some (compare ((c * 2 ^ (q + 149).toNat : Nat) : Int) 0) := by
    have q1 : FP.Core.b32.qmin = -149 := by decide
    rw [q1]
    show some (compare (FP.Core.signed false (FP.Core.inUnits c q (min q (-149)))) (FP.Core.signed false (FP.Core.inUnits 0 (-149) (min q (-149))))) = _
    rw [show min q (-149) = -149 by omega]
    unfold FP.Core.inUnits
    rw [Nat.zero_mul, show q - -149 = q + 149 by omega]
    rfl
  rw [e2]
  have h5 : 0 < c * 2 ^ (q + 149).toNat := Nat.mul_pos h1 (Nat.two_pow_pos _)
  have e4 : compare ((c * 2 ^ (q + 149).toNat : Nat) : Int) 0 = .gt := by
    simp only [compare, compareOfLessAndEq]
    rw [if_neg (by omega), if_neg (by omega)]
  rw [e4]
theorem okF_val {v : UInt32} {c j : Nat} (hj : j ≤ 24) (h1 : 2 ^ 23 ≤ c) (h2 : c < 2 ^ 24) (h : FP.Core.val32 v = .fin false c (-23 - (j : Int))) : okF v = true := by
  obtain ⟨i1, i2⟩ := fb_val j 120 v c (by omega) hj h1 h2 h
  have g := gt_0 h (by omega) (by omega)
  have s1 := sub_ne i2
  have s2 := mul_ne s1
  unfold okF
  rw [Bool.or_eq_true]
  refine Or.inr ?_
  rw [Bool.and_eq_true, Bool.and_eq_true, Bool.and_eq_true]
  refine ⟨decide_eq_true ?_, i1, fl_vfc s1, fl_vfc s2⟩
  rw [g]
  decide
theorem okF_0 {v : UInt32} (h : FP.Core.val32 v = .fin false 0 FP.Core.b32.qmin) : okF v = true := by
  have e : FP.fcmp v FP.fconst0 = FP.Core.order (FP.Core.val32 v) (FP.Core.val32 FP.fconst0) := rfl
  have e2 : FP.fcmp v FP.fconst0 = some .eq := by
    rw [e, h, c0_val]
    decide +kernel
  unfold okF
  rw [Bool.or_eq_true]
  refine Or.inl (decide_eq_true ?_)
  rw [e2]
  decide
theorem ls_val {x y : Int32} {a b : Nat} (hx : x.toInt = (a : Int)) (hy : y.toInt = (b : Int)) (hab : a ≤ b) (hb0 : 0 < b) (hb : b < 2 ^ 24) : FP.Core.val32 (FP.fdiv (FP.i2f x) (FP.i2f y)) ≠ .nan ∧ okF (FP.fdiv (FP.i2f x) (FP.i2f y)) = true := by
  have e0 : FP.Core.val32 (FP.fdiv (FP.i2f x) (FP.i2f y)) = FP.Core.quotient FP.Core.b32 (FP.Core.val32 (FP.i2f x)) (FP.Core.val32 (FP.i2f y)) := FP.Core.val32_fdiv _ _
  obtain ⟨m, hm, hm2, em⟩ := i2f_val hy hb0 hb
  have hB : 0 < b * 2 ^ m := Nat.mul_pos hb0 (Nat.two_pow_pos _)
  by_cases ha : a = 0
  · subst ha
    have ex : FP.Core.val32 (FP.i2f x) = .fin false 0 FP.Core.b32.qmin := by
      have e1 : FP.Core.val32 (FP.i2f x) = FP.Core.round FP.Core.b32 (FP.Core.ofInt x.toInt) := FP.Core.val32_i2f x
      rw [e1, hx]
      decide +kernel
    have ev : FP.Core.val32 (FP.fdiv (FP.i2f x) (FP.i2f y)) = .fin false 0 FP.Core.b32.qmin := by
      rw [e0, ex, em]
      show (if b * 2 ^ m = 0 then _ else FP.Core.roundRatio FP.Core.b32 (false != false) 0 (b * 2 ^ m) _) = _
      rw [if_neg (by omega)]
      rfl
    exact ⟨(by rw [ev]; intro q; cases q), okF_0 ev⟩
  · obtain ⟨k, hk, hk2, ek⟩ := i2f_val hx (by omega) (by omega)
    have ev : FP.Core.val32 (FP.fdiv (FP.i2f x) (FP.i2f y)) = FP.Core.roundRatio FP.Core.b32 false a b 0 := by
      rw [e0, ek, em]
      show (if b * 2 ^ m = 0 then _ else FP.Core.roundRatio FP.Core.b32 (false != false) (a * 2 ^ k) (b * 2 ^ m) (-(k : Int) - -(m : Int))) = _
      rw [if_neg (by omega)]
      refine FP.Core.roundRatio_congr hB hb0 ?_
      have e9 : ∀ u w : Nat, a * 2 ^ k * b * 2 ^ u = a * (b * 2 ^ m) * 2 ^ w ↔ a * b * 2 ^ (k + u) = a * b * 2 ^ (m + w) := fun u w => by
        rw [Nat.pow_add, Nat.pow_add]
        constructor <;> intro h <;> simp only [Nat.mul_comm, Nat.mul_assoc, Nat.mul_left_comm] at h ⊢ <;> exact h
      rw [e9]
      rw [show k + (-(k : Int) - -(m : Int) - 0).toNat = m + (0 - (-(k : Int) - -(m : Int))).toNat by omega]
    obtain ⟨c, j, hj, h1, h2, ec⟩ := rr_val (by omega) hab hb
    rw [ec] at ev
    exact ⟨(by rw [ev]; intro q; cases q), okF_val hj h1 h2 ev⟩
theorem FL_of {t : Nat} {S : Nat → Nat → Int32} (ht : t < 600) (h : GD t S) : FLT S := by
  obtain ⟨hO, ⟨a1, a2⟩, a3, a4, a5⟩ := h
  have gn := gs_nn (f := S 0) 8 (fun j hj => (hO.1.1 j hj).1.1)
  have f1 : (S 12 2 + S 12 3).toInt = (S 12 2).toInt + (S 12 3).toInt := i_add (by omega) (by omega) (by omega) (by omega)
  have f0 : (480 : Int32).toInt = 480 := by decide
  have f2 : (480 + S 12 1).toInt = 480 + (S 12 1).toInt := by rw [i_add (by omega) (by omega) (by omega) (by omega), f0]
  have q := ls_val (x := S 12 2 + S 12 3) (y := 480 + S 12 1) (a := ((S 12 2).toInt + (S 12 3).toInt).toNat) (b := (480 + (S 12 1).toInt).toNat) (by omega) (by omega) (by omega) (by omega) (by omega)
  exact ⟨fl_no q.1, q.2, fl_d q.1⟩
/-! THE CLAIM OUT OF ONE WALK OF THE LAW'S BODY. Your part is whole_start (and what it stands on); all else here is the same for every law, but numbers. -/
def R_law : String := "RibbonBalloonsLaw"
def lw_P (b : Addr) (xs : List Int32) (args : Array Value) (s : State) : Prop := args = #[.ref b] ∧ s.IntsAt b xs ∧ xs.length ≤ 1536 ∧ (Jvm.Cond.and given_1 narrow_1).before args s = true
/-- what a walk over the start with the record d0 says of its end, said of the start itself -/
theorem lw_closed {s t : State} {o : Outcome} {d0 : Drawn} {L : List Loc} {k n : Nat} (hd0 : s.drawn.sameBut d0 lw_cs) (hv : ∃ v, o = .returned v) (hW : (s.setDrawn d0).WarmedH t.vm) (hs : (s.setDrawn d0).sameButNew ({ t with vm := s.vm } : State) L k n) : State.butDraws s t lw_cs (fun t1 => Framed s o t1 L k n) := by
  have h2 : t.drawn = d0 := congrArg State.drawn hs.1
  refine ⟨⟨hv, hW, State.sameButNew.setDrawn hs s.drawn⟩, ?_, by decide⟩
  rw [h2]
  exact hd0
def lw_Q (_ : Array Value) (s : State) (o : Outcome) (t : State) : Prop := o = .returned (some (.int 1)) ∧ State.butDraws s t lw_cs (fun t1 => Framed s o t1 [] 601024 7293033)
def lw_Z (below : List Frame) (a : Array Value) (s : State) : State → Prop := fun t => ∃ o, t.status = .running ∧ Ended t below o ∧ lw_Q a s o t
/-- the law's own end, with 1 on the stack, nothing written that was there before, its room as the claim has it; d0: the record of draws at this point (at the entry s.drawn: begin with 'refine W.base ?_' and 'have hd0 := Drawn.sameBut.refl s.drawn lw_cs') -/
theorem lw_ret {p : Program} {l : Launch} {e : Env} {s : State} {m : MethodId} {below : List Frame} {meth : Method} {c : Code} {b : Nat} {d0 : Drawn} (hd0 : s.drawn.sameBut d0 lw_cs) (hx : p.tables.exec = Jvm.exec) (hb : c.code = code) (hr : meth.sig.returnType = ret) (hlocks : meth.locks = false) {pc : Nat} {H : Heap} {ls : Array Slot} (hdg : decode code pc = .ok (.ireturn, 1)) : W p l e room_1 (s.setDrawn d0) m #[Value.ref b] below meth c H [] 601024 7293033 (lw_Z below #[Value.ref b] s) (F0 m pc ls [.int 1]) := by
  intro T hT X
  obtain ⟨fs, hret, hrun, hended, hW, hframe⟩ := X.leave (v := some (.int 1)) (hlocks := hlocks) (fun h => by rw [hr] at h; cases h)
  have hmeth' : T.vm.method? m = some meth := X.method'
  refine ⟨T.setFrames fs, ?_, .returned (some (.int 1)), hrun, hended, rfl, lw_closed hd0 ⟨_, rfl⟩ hW hframe⟩
  jvm_step X.here [X.here.top, hx, hb, hdg, hmeth', hr, ret, narrow_b1]
  (try refine ⟨rfl, ?_⟩); (try refine ⟨rfl, ?_⟩)
  first | (intro acts; rw [hret _ acts rfl rfl rfl]) | rw [hret _ _ rfl rfl rfl]
  exact Steps.refl _
/-- what holds at the law's entry: the machine, the code, the tables' words (any of lw_tbl by 'hts w (by decide +kernel)'), the script of L ints xs at the cell b, what the Statement gives of the start (any of its parts by flat_of_before) -/
def lw_At (p : Program) (s : State) (m : MethodId) (meth : Method) (c : Code) (b L : Nat) (xs : Nat → Int32) : Prop :=
  p.tables.exec = Jvm.exec ∧ c.code = code ∧ meth.sig.returnType = ret ∧ c.maxLocals = 9 ∧ s.vm.findClass R_law = some m.cls ∧ (∀ w ∈ lw_tbl, w.before #[Value.ref b] s = true) ∧ va_X b L xs s s.heap ∧ b < s.heap.size ∧ meth.locks = false ∧ (Jvm.Cond.and given_1 narrow_1).before #[Value.ref b] s = true
theorem tu_X0 : ∀ w ∈ u_ws RX0 TX0 7, w ∈ lw_tbl := by
  exact mem_r _ [156, 158, 160, 162, 164, 166, 168] (by decide +kernel)
theorem tu_X1 : ∀ w ∈ u_ws RX1 TX1 3, w ∈ lw_tbl := by
  exact mem_r _ [288, 290, 292] (by decide +kernel)
theorem tu_X2 : ∀ w ∈ u_ws RX2 TX2 2, w ∈ lw_tbl := by
  exact mem_r _ [254, 256] (by decide +kernel)
theorem tu_X3 : ∀ w ∈ u_ws RX3 TX3 4, w ∈ lw_tbl := by
  exact mem_r _ [184, 186, 188, 190] (by decide +kernel)
theorem tu_X4 : ∀ w ∈ u_ws RX4 TX4 12, w ∈ lw_tbl := by
  exact mem_r _ [217, 219, 221, 223, 225, 227, 229, 231, 233, 235, 237, 239] (by decide +kernel)
theorem tu_X5 : ∀ w ∈ u_ws RX5 TX5 2, w ∈ lw_tbl := by
  exact mem_r _ [268, 270] (by decide +kernel)
theorem tu_X6 : ∀ w ∈ u_ws RX6 TX6 7, w ∈ lw_tbl := by
  exact mem_r _ [302, 304, 306, 308, 310, 312, 314] (by decide +kernel)
theorem tu_X7 : ∀ w ∈ u_ws RX7 TX7 12, w ∈ lw_tbl := by
  exact mem_r _ [878, 880, 882, 884, 886, 888, 890, 892, 894, 896, 898, 900] (by decide +kernel)
theorem vkR_of {own tx : String} {k : Nat} {args : Array Value} {s : State} (h : (Cond.stringRef own k tx).before args s = true) : ∃ a, vk_R own k tx a s := by
  have hcur : ∃ cur, s.vm.findClass own = some cur := by
    have h1 := h
    simp only [Cond.before, Cond.holds, Cond.value] at h1
    cases hc : s.vm.findClass own with
    | none => simp [hc] at h1
    | some cur => exact ⟨cur, rfl⟩
  obtain ⟨cur, hcur⟩ := hcur
  obtain ⟨k1, cf, i, a, h1, h2, h3, h4, h5, h6⟩ := Cond.stringRef_spec (first := s) (o := none) (idx := []) hcur h
  exact ⟨a, vk_R.of (A := args) h h6⟩
theorem hu_all {args : Array Value} {s : State} (htab : ∀ w ∈ lw_tbl, w.before args s = true) : ∀ (k : Nat) (q : vw_C), vwCl[k]? = some q → ∃ (cC : ClassId) (iS : Nat → Nat), u_Kn s q.1 q.2.1 q.2.2 cC iS := by
  intro k q hq
  have hk : k < 8 := (List.getElem?_eq_some_iff.mp hq).1
  rcases (show k = 0 ∨ k = 1 ∨ k = 2 ∨ k = 3 ∨ k = 4 ∨ k = 5 ∨ k = 6 ∨ k = 7 by omega) with rfl | rfl | rfl | rfl | rfl | rfl | rfl | rfl
  · cases hq; exact u_known (C := RX0) (T := TX0) (N := 7) (n := 7) htab tu_X0 (htab _ (List.mem_of_getElem? (i := 106) (by decide +kernel)))
  · cases hq; exact u_known (C := RX1) (T := TX1) (N := 3) (n := 3) htab tu_X1 (htab _ (List.mem_of_getElem? (i := 276) (by decide +kernel)))
  · cases hq; exact u_known (C := RX2) (T := TX2) (N := 2) (n := 2) htab tu_X2 (htab _ (List.mem_of_getElem? (i := 243) (by decide +kernel)))
  · cases hq; exact u_known (C := RX3) (T := TX3) (N := 4) (n := 4) htab tu_X3 (htab _ (List.mem_of_getElem? (i := 174) (by decide +kernel)))
  · cases hq; exact u_known (C := RX4) (T := TX4) (N := 12) (n := 12) htab tu_X4 (htab _ (List.mem_of_getElem? (i := 100) (by decide +kernel)))
  · cases hq; exact u_known (C := RX5) (T := TX5) (N := 2) (n := 2) htab tu_X5 (htab _ (List.mem_of_getElem? (i := 260) (by decide +kernel)))
  · cases hq; exact u_known (C := RX6) (T := TX6) (N := 7) (n := 7) htab tu_X6 (htab _ (List.mem_of_getElem? (i := 92) (by decide +kernel)))
  · cases hq; exact u_known (C := RX7) (T := TX7) (N := 12) (n := 12) htab tu_X7 (htab _ (List.mem_of_getElem? (i := 861) (by decide +kernel)))
theorem ZN_all {args : Array Value} {s : State} (htab : ∀ w ∈ lw_tbl, w.before args s = true) : ZN s :=
  ⟨va_Nw.of rfl (A := args) (htab (.methodLinkNest RX4 20 yX3_init RX6) (List.mem_of_getElem? (i := 175) (by decide +kernel))), va_Nw.of rfl (A := args) (htab (.methodLinkNest RX2 21 yX4_init RX6) (List.mem_of_getElem? (i := 250) (by decide +kernel))), va_Nw.of rfl (A := args) (htab (.methodLinkNest RX6 11 yX4_init RX6) (List.mem_of_getElem? (i := 101) (by decide +kernel))), va_Nw.of rfl (A := args) (htab (.methodLinkNest RX6 32 yX5_init RX6) (List.mem_of_getElem? (i := 261) (by decide +kernel))), va_Nw.of rfl (A := args) (htab (.methodLinkNest RX6 46 yX1_init RX6) (List.mem_of_getElem? (i := 277) (by decide +kernel))), va_AO.of (A := args) (htab (.arrayOver (.object RX4)) (List.mem_of_getElem? (i := 249) (by decide +kernel)))⟩
theorem ZX_all {args : Array Value} {s : State} (htab : ∀ w ∈ lw_tbl, w.before args s = true) (hgv : (Jvm.Cond.and given_1 narrow_1).before args s = true) : ZX (fun q : Nat => s.heap.size ≤ q) s := by
  refine ⟨⟨⟨va_Nw.of rfl (A := args) (htab (.declares (Bundle.initS "java/lang/RuntimeException")) (List.mem_of_getElem? (i := 401) (by decide +kernel))), va_Nw.of rfl (A := args) (htab (.declares (Bundle.initS "java/lang/Exception")) (List.mem_of_getElem? (i := 403) (by decide +kernel))), va_Nw.of rfl (A := args) (htab (.declares (Bundle.initS Bundle.tN)) (List.mem_of_getElem? (i := 405) (by decide +kernel)))⟩, ⟨va_Nw.of rfl (A := args) (htab (.castable xcI xcI) (List.mem_of_getElem? (i := 399) (by decide +kernel))), va_Nw.of rfl (A := args) (htab (.castable xcA xcA) (List.mem_of_getElem? (i := 470) (by decide +kernel))), va_Nw.of rfl (A := args) (htab (.castable xcS xcS) (List.mem_of_getElem? (i := 636) (by decide +kernel)))⟩, ⟨va_Nc.of (args := args) (flat_of_before _ hgv (.not (.castable xcA xcI)) (List.mem_of_getElem? (i := 14) (by decide +kernel))), va_Nc.of (args := args) (flat_of_before _ hgv (.not (.castable xcS xcI)) (List.mem_of_getElem? (i := 15) (by decide +kernel))), va_Nc.of (args := args) (flat_of_before _ hgv (.not (.castable xcS xcA)) (List.mem_of_getElem? (i := 25) (by decide +kernel)))⟩⟩, ⟨vkR_of (htab (.stringRef RX6 123 "the buffer is full") (List.mem_of_getElem? (i := 764) (by decide +kernel))), vkR_of (htab (.stringRef RX6 140 "the buffer is not complete work") (List.mem_of_getElem? (i := 780) (by decide +kernel))), vkR_of (htab (.stringRef RX6 160 "there is no snapshot") (List.mem_of_getElem? (i := 805) (by decide +kernel))), vkR_of (htab (.stringRef RX6 165 "there is no saved state") (List.mem_of_getElem? (i := 813) (by decide +kernel))), vkR_of (htab (.stringRef RX6 197 "the rank is below 0") (List.mem_of_getElem? (i := 833) (by decide +kernel))), vkR_of (htab (.stringRef RX6 303 "there is no such balloon") (List.mem_of_getElem? (i := 438) (by decide +kernel))), vkR_of (htab (.stringRef RX6 305 "there is no such ribbon") (List.mem_of_getElem? (i := 570) (by decide +kernel))), vkR_of (htab (.stringRef RX6 307 "a number is out of range") (List.mem_of_getElem? (i := 477) (by decide +kernel))), vkR_of (htab (.stringRef RX6 309 "it can not be done") (List.mem_of_getElem? (i := 643) (by decide +kernel)))⟩, ?_, ?_⟩
  · exact vx_Zqof (args := args) (htab (.laysStatic Bundle.tN "UNASSIGNED_STACK" Bundle.steD) (List.mem_of_getElem? (i := 424) (by decide +kernel))) (htab (.initialized Bundle.tN) (List.mem_of_getElem? (i := 84) (by decide +kernel))) (flat_of_before _ hgv (.isRef (.static Bundle.tN "UNASSIGNED_STACK" Bundle.steD)) (List.mem_of_getElem? (i := 4) (by decide +kernel))) (fun a ha => Nat.not_le.mpr ha)
  · exact vx_Zqof (args := args) (htab (.laysStatic Bundle.tN "SUPPRESSED_SENTINEL" Bundle.listD) (List.mem_of_getElem? (i := 426) (by decide +kernel))) (htab (.initialized Bundle.tN) (List.mem_of_getElem? (i := 84) (by decide +kernel))) (flat_of_before _ hgv (.isRef (.static Bundle.tN "SUPPRESSED_SENTINEL" Bundle.listD)) (List.mem_of_getElem? (i := 5) (by decide +kernel))) (fun a ha => Nat.not_le.mpr ha)
set_option maxHeartbeats 4000000 in
set_option maxRecDepth 100000 in
theorem whole_start {p : Program} {e : Env} {s : State} {m : MethodId} {below : List Frame} {meth : Method} {c : Code} (l : Launch) (hflags : l.flags = flags0) {b L : Nat} {xs : Nat → Int32} (hL : L ≤ 1536) (C0 : lw_At p s m meth c b L xs) : W p l e room_1 s m #[Value.ref b] below meth c s.heap [] 0 0 (lw_Z below #[Value.ref b] s) (entryFrame m ([Value.ref b] : List Value).toArray 9) := by
  obtain ⟨hx, hb, hr, hml, hown, htab, hX, hbl, hlocks, hgv⟩ := id C0
  have hl9 : l.stackTraces = false := by
    unfold Launch.stackTraces
    rw [hflags]
    decide
  have hts : ∀ w ∈ wsL_law, w.before #[Value.ref b] s = true := fun w h => htab w (tb_law w h)
  have hbA : ¬ (fun q : Nat => s.heap.size ≤ q) b := Nat.not_le.mpr hbl
  obtain ⟨A, hAe⟩ : ∃ A : Nat → Prop, A = fun q : Nat => s.heap.size ≤ q := ⟨_, rfl⟩
  rw [← hAe] at hbA
  have hA : ∀ q : Nat, s.heap.size ≤ q → A q := fun q h => by rw [hAe]; exact h
  have hAq : ∀ q : Nat, A q → s.heap.size ≤ q := fun q h => by rw [hAe] at h; exact h
  have hZ : ZX A s := by rw [hAe]; exact ZX_all htab hgv
  have hZN : ZN s := ZN_all htab
  have X : CallFix p m c cL_law 9 s #[Value.ref b] wsL_law RL := ⟨hx, hb, hml, hown, hts⟩
  obtain ⟨D, cI, cZ, cS, cJ, hK⟩ := Kst hts (htab (.arrayOver (.object RX4)) (List.mem_of_getElem? (i := 249) (by decide +kernel))) (htab (.arrayClass .int) (List.mem_of_getElem? (i := 171) (by decide +kernel))) (htab (.arrayClass .boolean) (List.mem_of_getElem? (i := 172) (by decide +kernel))) (htab (.arrayClass .long) (List.mem_of_getElem? (i := 1293) (by decide +kernel))) (hu_all htab)
  have hS : va_S A s.heap s.heap [] := va_S.rf
  have hP : va_P D vwCl (List.flatten ([] : List va_W)) s.heap := fun k q h => by simp at h
  have hD : va_D A (List.flatten ([] : List va_W)) := ⟨fun i j p q h => by simp at h, fun k q h => by simp at h⟩
  have hl := lv_entry ([.ref b]) (n := 9) (Nat.le_of_ble_eq_true rfl)
  rw [lg_entry_eq]
  generalize (lg_sl ([.ref b]) ++ List.replicate (9 - (lg_sl ([.ref b])).length) Slot.unset).toArray = ls at hl ⊢
  have hl : lv_has ls 9 [(0, .ref b)] := hl
  refine r_newO (Wr := []) (C := RX6) (T := TX6) (N := 7) (ci := 6) hx hb htab tu_X6 tyX6 tyX6_ok hown (htab (.classLink RL 8 RX6) (List.mem_of_getElem? (i := 91) (by decide +kernel))) (htab (.instantiable RX6 7) (List.mem_of_getElem? (i := 92) (by decide +kernel))) (htab (.initialized RX6) (List.mem_of_getElem? (i := 74) (by decide +kernel))) hK hP hD hS hA rfl [.null, .null, .int 0, .null, .null, .null, .null] (fun j hj => by rcases (show j = 0 ∨ j = 1 ∨ j = 2 ∨ j = 3 ∨ j = 4 ∨ j = 5 ∨ j = 6 by omega) with rfl | rfl | rfl | rfl | rfl | rfl | rfl <;> rfl) (Nat.le_of_ble_eq_true rfl) (Nat.le_of_ble_eq_true rfl) dL_law_0 (fun x0 H hP hD hS => ?_)
  refine lv_dup hx hb dL_law_3 rfl ?_
  refine kcallIY (As := []) (rest := [.ref x0]) (U := UI) (Wr := []) (Wo := fun u => [clP cI cZ cS u.1 u.2.1 u.2.2.1 u.2.2.2.1 u.2.2.2.2.1 0 u.2.2.2.2.2.1 u.2.2.2.2.2.2 0 (fun _ => begS) (fun _ => 0) 0 begS begS (fun _ => 0) (-1000)]) X hZN (k_init l D cI cZ cS cJ x0) (cwI 0 hts gL_law_X6_init rfl rfl rfl (htab (.initialized RX6) (List.mem_of_getElem? (i := 74) (by decide +kernel))) (htab (.methodLink RL 87 yX6_init) (List.mem_of_getElem? (i := 93) (by decide +kernel))) (htab (.instanceMethod yX6_init) (List.mem_of_getElem? (i := 94) (by decide +kernel))) rfl (by decide +kernel) ⟨Nat.le_of_ble_eq_true rfl, Nat.le_of_ble_eq_true rfl⟩) hK hP hD hS hA rfl hl.1 rfl (Nat.le_of_ble_eq_true rfl) dL_law_4 ⟨Nat.le_of_ble_eq_true rfl, Nat.le_of_ble_eq_true rfl⟩ (fun u H locs hu hP hD hS => ?_)
  obtain ⟨O, k, g, a, d, c, f⟩ := u
  obtain ⟨hO0, hf⟩ := hu
  have hO0 : O 0 = x0 := hO0
  have hf : ∀ i, i < 6 → f i = some (c i 0) := hf
  have hP9 := hP
  have hD9 := hD
  subst hO0
  have hP := hP9
  have hD := hD9
  have hP : va_P D vwCl (List.flatten [clP cI cZ cS O k g a d 0 c f 0 (fun _ => begS) (fun _ => 0) 0 begS begS (fun _ => 0) (-1000)]) _ := hP
  have hD : va_D A (List.flatten [clP cI cZ cS O k g a d 0 c f 0 (fun _ => begS) (fun _ => 0) 0 begS begS (fun _ => 0) (-1000)]) := hD
  refine lv_astore_n (lv' := [(1, .ref (O 0)), (0, .ref b)]) hx hb dL_law_7 rfl hl (by decide) rfl (fun ls hl => ?_)
  refine r_newO (Wr := [clP cI cZ cS O k g a d 0 c f 0 (fun _ => begS) (fun _ => 0) 0 begS begS (fun _ => 0) (-1000)]) (C := RX7) (T := TX7) (N := 12) (ci := 7) hx hb htab tu_X7 tyX7 tyX7_ok hown (htab (.classLink RL 88 RX7) (List.mem_of_getElem? (i := 860) (by decide +kernel))) (htab (.instantiable RX7 12) (List.mem_of_getElem? (i := 861) (by decide +kernel))) (htab (.initialized RX7) (List.mem_of_getElem? (i := 83) (by decide +kernel))) hK hP hD hS hA rfl [.int 0, .null, .int 0, .int 0, .null, .int 0, .int 0, .int 0, .int 0, .int 0, .null, .long 0] (fun j hj => by rcases (show j = 0 ∨ j = 1 ∨ j = 2 ∨ j = 3 ∨ j = 4 ∨ j = 5 ∨ j = 6 ∨ j = 7 ∨ j = 8 ∨ j = 9 ∨ j = 10 ∨ j = 11 by omega) with rfl | rfl | rfl | rfl | rfl | rfl | rfl | rfl | rfl | rfl | rfl | rfl <;> rfl) (Nat.le_of_ble_eq_true rfl) (Nat.le_of_ble_eq_true rfl) dL_law_8 (fun m0 H hP hD hS => ?_)
  refine lv_dup hx hb dL_law_11 rfl ?_
  refine kcallI (As := []) (rest := [.ref m0]) (U := Nat × Nat × Nat) (Wr := [clP cI cZ cS O k g a d 0 c f 0 (fun _ => begS) (fun _ => 0) 0 begS begS (fun _ => 0) (-1000)]) (Wo := fun u => [mdO m0 u.1 u.2.1 u.2.2 0 0 0 0 0 0 0 0 0, arC cI u.1 1170 (enc init7), arC cI u.2.1 60 (fun _ => 0), arC cI u.2.2 8 (fun _ => 0)]) X (c_X7_init l D cI cZ cS cJ m0) (cwI 0 hts gL_law_X7_init rfl rfl rfl (htab (.initialized RX7) (List.mem_of_getElem? (i := 83) (by decide +kernel))) (htab (.methodLink RL 90 yX7_init) (List.mem_of_getElem? (i := 862) (by decide +kernel))) (htab (.instanceMethod yX7_init) (List.mem_of_getElem? (i := 863) (by decide +kernel))) rfl (by decide +kernel) ⟨Nat.le_of_ble_eq_true rfl, Nat.le_of_ble_eq_true rfl⟩) hK hP hD hS hA rfl hl.1 rfl (Nat.le_of_ble_eq_true rfl) dL_law_12 ⟨Nat.le_of_ble_eq_true rfl, Nat.le_of_ble_eq_true rfl⟩ (fun u H locs hu hP hD hS => ?_)
  obtain ⟨m1, m2, m3⟩ := u
  have hP : va_P D vwCl (List.flatten [clP cI cZ cS O k g a d 0 c f 0 (fun _ => begS) (fun _ => 0) 0 begS begS (fun _ => 0) (-1000), mdO m0 m1 m2 m3 0 0 0 0 0 0 0 0 0, arC cI m1 1170 (enc init7), arC cI m2 60 (fun _ => 0), arC cI m3 8 (fun _ => 0)]) _ := hP
  have hD : va_D A (List.flatten [clP cI cZ cS O k g a d 0 c f 0 (fun _ => begS) (fun _ => 0) 0 begS begS (fun _ => 0) (-1000), mdO m0 m1 m2 m3 0 0 0 0 0 0 0 0 0, arC cI m1 1170 (enc init7), arC cI m2 60 (fun _ => 0), arC cI m3 8 (fun _ => 0)]) := hD
  refine lv_astore_n (lv' := [(2, .ref m0), (1, .ref (O 0)), (0, .ref b)]) hx hb dL_law_15 rfl hl (by decide) rfl (fun ls hl => ?_)
  refine lv_iconst (v := 1) hx hb dL_law_16 (by decide) ?_
  refine r_newJ1 (Ws := [clP cI cZ cS O k g a d 0 c f 0 (fun _ => begS) (fun _ => 0) 0 begS begS (fun _ => 0) (-1000), mdO m0 m1 m2 m3 0 0 0 0 0 0 0 0 0, arC cI m1 1170 (enc init7), arC cI m2 60 (fun _ => 0), arC cI m3 8 (fun _ => 0)]) hx hb (htab (.arrayClass .long) (List.mem_of_getElem? (i := 1293) (by decide +kernel))) hK hP hD hS hA (Nat.le_of_ble_eq_true rfl) (Nat.le_of_ble_eq_true rfl) dL_law_17 (fun o H hP hD hS => ?_)
  refine lv_astore_n (lv' := [(3, .ref o), (2, .ref m0), (1, .ref (O 0)), (0, .ref b)]) hx hb dL_law_19 rfl hl (by decide) rfl (fun ls hl => ?_)
  refine lv_iconst (v := 0) hx hb dL_law_20 (by decide) ?_
  refine lv_istore (lv' := [(4, .int 0), (3, .ref o), (2, .ref m0), (1, .ref (O 0)), (0, .ref b)]) hx hb dL_law_21 hl (by decide) rfl (fun ls hl => ?_)
  refine W.widen (k := 148) (n := 2675) (by omega) (by omega) ?_
  have hP := P_subF (Ws := [clP cI cZ cS O k g a d 0 c f 0 (fun _ => begS) (fun _ => 0) 0 begS begS (fun _ => 0) (-1000), mdO m0 m1 m2 m3 0 0 0 0 0 0 0 0 0, arC cI m1 1170 (enc init7), arC cI m2 60 (fun _ => 0), arC cI m3 8 (fun _ => 0), arJ cJ o 0]) (Wc := [mdO m0 m1 m2 m3 0 0 0 0 0 0 0 0 0, arC cI m1 1170 (enc init7), arC cI m2 60 (fun _ => 0), arC cI m3 8 (fun _ => 0), arJ cJ o 0, clP cI cZ cS O k g a d 0 c f 0 (fun _ => begS) (fun _ => 0) 0 begS begS (fun _ => 0) (-1000)]) hP [1, 2, 3, 4, 5, 0] rfl
  have hD := D_subF (Ws := [clP cI cZ cS O k g a d 0 c f 0 (fun _ => begS) (fun _ => 0) 0 begS begS (fun _ => 0) (-1000), mdO m0 m1 m2 m3 0 0 0 0 0 0 0 0 0, arC cI m1 1170 (enc init7), arC cI m2 60 (fun _ => 0), arC cI m3 8 (fun _ => 0), arJ cJ o 0]) (Wc := [mdO m0 m1 m2 m3 0 0 0 0 0 0 0 0 0, arC cI m1 1170 (enc init7), arC cI m2 60 (fun _ => 0), arC cI m3 8 (fun _ => 0), arJ cJ o 0, clP cI cZ cS O k g a d 0 c f 0 (fun _ => begS) (fun _ => 0) 0 begS begS (fun _ => 0) (-1000)]) hD [1, 2, 3, 4, 5, 0] (by decide) rfl
  rw [enc_beg] at hP hD
  refine lw_loop l D cI cZ cS cJ hl9 X hZ hK hA hX hbl hbA o m0 m1 m2 m3 O k g a d hL (fun t S ht h => FL_of ht h) (fun H locs ls hS => ?_) 513 0 148 2675 0 c f 0 (fun _ => begS) (fun _ => 0) 0 begS begS (fun _ => 0) (-1000) 0 0 0 0 0 0 0 begB (fun _ => 0) (by omega) (by omega) (by omega) (by omega) (IV_beg hf) H _ ls hP hD hS (lv_sub hl [4, 3, 2, 1, 0] rfl)
  refine va_forget (fun q hq => hAq _ (hS.2.2 q hq)) ?_
  refine lv_iconst (v := 1) hx hb dL_law_1729 (by decide) ?_
  exact W.base (lw_ret (Drawn.sameBut.refl s.drawn lw_cs) hx hb hr hlocks dL_law_1730)
set_option maxHeartbeats 4000000 in
theorem lw_walk (l : Launch) (hflags : l.flags = flags0) (b : Addr) (xs : List Int32) : MetFree l x (headSpec (Jvm.Cond.code x code maxLocals ret :: tables_1) room_1) (lw_P b xs) (fun _ _ _ _ _ => True) lw_Q := by
  refine MetFree.of_bodyS (code := code) (maxLocals := maxLocals) (ret := ret) (by decide) ?_ ?_
  · intro args s m h hn
    obtain ⟨meth, c, h1, h2, h3, h4, h5, h6, -, -⟩ := Cond.code_spec hn (atoms_spec (ws := Jvm.Cond.code x code maxLocals ret :: tables_1) h _ List.mem_cons_self)
    exact ⟨meth, c, h1, h2, h3, h4, h5, h6⟩
  · intro p e s m args below meth c s₁ B hml0 hP _
    obtain ⟨rfl, hx, hbd, hgv⟩ := hP
    obtain ⟨scr, harrAt, hlist, hof, hsmall⟩ := hx
    obtain ⟨hcb, hkn, -, -⟩ := State.arrayAt?_spec harrAt
    have hown : s.vm.findClass R_law = some m.cls := findClass_of_methodNamed B.named
    have hts0 : ∀ c ∈ (Jvm.Cond.code x code maxLocals ret :: tables_1), c.before #[Value.ref b] s = true := atoms_spec (ws := Jvm.Cond.code x code maxLocals ret :: tables_1) B.pre
    have hts : ∀ w ∈ lw_tbl, w.before #[Value.ref b] s = true := k2_hts_sels lw_privs (fun w hw => hts0 w (List.mem_cons_of_mem _ hw)) lw_privs_ok
    have hml : c.maxLocals = 9 := B.maxLocals_eq (hts0 _ List.mem_cons_self)
    have X₀ : Stand p l e room_1 s m #[Value.ref b] below meth c s₁ [] 0 0 := Stand.of_body B
    have hh0 : s₁.heap = s.heap := by rw [B.state]; rfl
    have hsz : scr.slots.size = xs.length := by rw [← Array.length_toList, hlist, List.length_map]
    have hval : ∀ j : Nat, j < xs.length → scr.slots[j]? = some (.int (xs.getD j 0)) := fun j hj => by
      rw [← Array.getElem?_toList, hlist]
      simp [hj]
    have hbl : b < s.heap.size := (Array.getElem?_eq_some_iff.mp hcb).1
    have hX : va_X b xs.length (fun j => xs.getD j 0) s s.heap := ⟨scr, hcb, hof, hkn, hsz, hval⟩
    have K : W p l e room_1 s m #[Value.ref b] below meth c s₁.heap [] 0 0 (lw_Z below #[Value.ref b] s) (entryFrame m ([Value.ref b] : List Value).toArray 9) := by
      rw [hh0]
      exact whole_start l hflags hbd ⟨B.exec, B.bytes, B.returns, hml, hown, hts, hX, hbl, B.notSynchronized, hgv⟩
    obtain ⟨t, a1, o, b1, b2, b3⟩ := K s₁ rfl X₀
    exact ⟨t, o, a1, b1, b2, b3⟩
theorem lw_pre_spec {args : Array Value} {s : State} (h : (Jvm.Cond.and given_1 narrow_1).before args s = true) (hr : rest_1_c.before args s = true) : ∃ (b : Addr) (xs : List Int32), lw_P b xs args s := by
  have hs := flat_of_before _ h
  have hq := flat_of_before _ hr
  have hc : (Cond.count 1).before args s = true := hs _ (by decide +kernel)
  have harr : (Cond.arrayOf (.arg 0) .int).before args s = true := hs _ (by decide +kernel)
  have hle : (Cond.le (.length (.arg 0)) (.int 1536)).before args s = true := hs _ (by decide +kernel)
  have hlen : (Cond.isInt (.length (.arg 0))).before args s = true := hq _ (by decide +kernel)
  have hall : (Cond.all (.arg 0) (.isInt (.elem (.arg 0) (.index 0)))).before args s = true := hq _ (by decide +kernel)
  obtain ⟨b, xs, hb, hx⟩ := State.ints_of_pre rfl harr hlen hall
  have hsm : xs.length < 2 ^ 31 := hx.choose_spec.2.2.2
  have hev : (Term.length (.arg 0)).eval args s none [] s = some (.int xs.length.toInt32) := hx.length_eval hb
  have hv := Cond.le_ints hev (show (Term.int 1536).eval args s none [] s = some (.int 1536) from rfl)
  have hd : xs.length.toInt32 ≤ 1536 := by
    simpa [Cond.before, Cond.holds, hv] using hle
  have hN : xs.length ≤ 1536 := (Int32.ofNat_le_ofNat hsm (by decide)).mp (show Int32.ofNat xs.length ≤ Int32.ofNat 1536 from hd)
  exact ⟨b, xs, Cond.one_arg hc (show args[0]? = some (.ref b) from hb), hx, hN, h⟩
theorem lw_comes (l : Launch) (hflags : l.flags = flags0) : Comes l x (Jvm.Cond.code x code maxLocals ret :: tables_1) room_1 (fun tb e args s => Calls_1 tb e args s ∧ rest_1 tb e args s ∧ Pre_1 tb e args s)
    (fun _ _ args s o t => lw_Q args s o t) := by
  intro p e ha hc hk s m args below hf hfit hheap happ hpre
  obtain ⟨b, xs, hP⟩ := lw_pre_spec hpre.2.2 hpre.2.1
  obtain ⟨k, o, h1, h2, h3, hQ⟩ := lw_walk l hflags b xs p e ha hc hk s m args below hf ((Spec.applies_iff_loose hf).mp happ).1 hP trivial
  exact ⟨k, o, h1, h2, h3, hQ⟩
theorem lw_frame {s t : State} {o : Outcome} {args : Array Value} (h : State.butDraws s t lw_cs (fun t1 => Framed s o t1 [] 601024 7293033)) :
    State.butDraws s t [Jvm.Choice.named "NaN.bits"] (fun t1 => Framed s o t1 (fieldLocs frame_1_writes args s ++ arrayLocs frame_1_arrays args s ++ staticLocs frame_1_statics s) 601024 7293033) := h
theorem lw_limb (L : Cond) (hL : ∀ (args : Array Value) (s t : State), L.after args s (.returned (some (.int 1))) t = true) :
    ArmFor flags0 classFile x code maxLocals ret World_1 tables_1 room_1 Calls_1 rest_1 Pre_1
      (fun tb e a s o t => postC L tb e a s o t ∧ State.butDraws s t [Jvm.Choice.named "NaN.bits"] (fun t1 => Framed s o t1 (fieldLocs frame_1_writes a s ++ arrayLocs frame_1_arrays a s ++ staticLocs frame_1_statics s) 601024 7293033)) := by
  intro l hflags _ _ p e ha hc hk s m args below hf hfit hheap happ hpre
  obtain ⟨k, o, h1, h2, h3, rfl, hF⟩ := lw_comes l hflags p e ha hc hk s m args below hf hfit hheap happ hpre
  exact ⟨k, _, h1, h2, h3, hL args s _, lw_frame hF⟩
theorem i_vc : Claimed_1_1 ∧ Claimed_1_2 := ⟨lw_limb limb_1_1 (fun args s t => by simp [limb_1_1, Cond.after, Cond.holds, Cond.value]), lw_limb limb_1_2 (fun args s t => Cond.after_iff.mpr (by
  first | (rw [show limb_1_2 = Cond.eq .result (.int 1) from rfl, Cond.eq_ints (x := 1) (y := 1) rfl rfl]; simp; done) | (simp [limb_1_2, Cond.value, Term.eval]; done)))⟩

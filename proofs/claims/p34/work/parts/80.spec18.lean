/-! the class' bits: the exponent kept as a whole number -/
theorem e_00 (x : Int32) : x = x - nI 0 := by
  rw [show nI 0 = 0 from rfl]
  exact (Int32.sub_zero x).symm
theorem e_dec (x : Int32) (k : Nat) : x - nI k + (-1) = x - nI (k + 1) := by
  rw [← nI_add k 1, Int32.sub_eq_add_neg, Int32.sub_eq_add_neg, Int32.neg_add, Int32.add_assoc, Int32.sub_eq_add_neg (-nI k), show -nI 1 = (-1 : Int32) by decide]
theorem e_all : ∀ a, a < 15 → ∀ b, b < 13 → ¬ (nI a - nI b ≤ -1022) ∧ ((nI a - nI b + 1023).toInt64 <<< ((52 : Int32).toInt64 &&& 63) : Int64) = (1023 + lN a - lN b) * 4503599627370496 := by decide +kernel
theorem e_big {a b : Nat} (ha : a ≤ 14) (hb : b ≤ 12) : ¬ (nI a - nI b ≤ -1022) := (e_all a (by omega) b (by omega)).1
theorem e_all2 : ∀ k, k < 121 → ¬ ((0 : Int32) - nI k ≤ -126) ∧ ((0 : Int32) - nI k + 127) <<< (23 : Int32) = nI ((127 - k) * 8388608) := by decide +kernel
theorem e_big2 {k : Nat} (h : k ≤ 120) : ¬ ((0 : Int32) - nI k ≤ -126) := (e_all2 k (by omega)).1
theorem bitD_c {v r : UInt64} {k : Nat} (c : ¬ Op.cmpValue (FP.dcmp v FP.dconst0) CmpOp.l = 0) (h14 : hvN 14 v ≤ 14) (h12 : dbN 12 (hvR 14 v) ≤ 12) (hr : r = bdR v) (hk : k = dbN 12 (hvR 14 v)) : ((nI (hvN 14 v) - nI k + 1023).toInt64 <<< ((52 : Int32).toInt64 &&& 63) : Int64) + FP.d2l (FP.dmul (FP.dsub r FP.dconst1) 4841369599423283200) = bitD v := by
  subst hk
  rw [(e_all (hvN 14 v) (by omega) (dbN 12 (hvR 14 v)) (by omega)).2]
  exact bitD_n c hr rfl
theorem bitF_c {v r : UInt32} {k : Nat} (c : ¬ Op.cmpValue (FP.fcmp v FP.fconst0) CmpOp.l = 0) (h : fbN 120 v ≤ 120) (hr : r = fbR 120 v) (hk : k = fbN 120 v) : ((0 : Int32) - nI k + 127) <<< (23 : Int32) + FP.f2i (FP.fmul (FP.fsub r FP.fconst1) 1258291200) = bitF v := by
  subst hk
  rw [(e_all2 (fbN 120 v) (by omega)).2]
  exact bitF_n c hr rfl
theorem ntl_q {S : Nat → Nat → Int32} {y i j : Nat} (hi : i < y) (hj : j < 3) : ntl S y i j = ntq S (3 * i + j) := by
  unfold ntl ntq
  rw [if_pos hi, show (3 * i + j) % 3 = j by omega, show (3 * i + j) / 3 = i by omega]

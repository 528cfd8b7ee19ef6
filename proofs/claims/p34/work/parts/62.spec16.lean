/-! the bits of a double, of a float, as both sides find them -/
def vfb (r : UInt64) : Bool := decide (r &&& 0x7fffffffffffffff ≤ 0x7ff0000000000000)
theorem vfb_n {r : UInt64} (h : vfb r = true) : vf_n64 r := of_decide_eq_true (p := r &&& 0x7fffffffffffffff ≤ 0x7ff0000000000000) h
abbrev d2c : UInt64 := 4611686018427387904
abbrev d52 : UInt64 := 4841369599423283200
/-- halved while at least 2, and how often -/
def hvR : Nat → UInt64 → UInt64
  | 0, r => r
  | f + 1, r => if Op.cmpValue (FP.dcmp r d2c) CmpOp.l < 0 then r else hvR f (FP.ddiv r d2c)
def hvN : Nat → UInt64 → Nat
  | 0, _ => 0
  | f + 1, r => if Op.cmpValue (FP.dcmp r d2c) CmpOp.l < 0 then 0 else hvN f (FP.ddiv r d2c) + 1
def hvO : Nat → UInt64 → Bool
  | 0, _ => false
  | f + 1, r => if Op.cmpValue (FP.dcmp r d2c) CmpOp.l < 0 then true else vfb (FP.ddiv r d2c) && hvO f (FP.ddiv r d2c)
/-- doubled while below 1 -/
def dbR : Nat → UInt64 → UInt64
  | 0, r => r
  | f + 1, r => if 0 ≤ Op.cmpValue (FP.dcmp r FP.dconst1) CmpOp.g then r else dbR f (FP.dmul r d2c)
def dbN : Nat → UInt64 → Nat
  | 0, _ => 0
  | f + 1, r => if 0 ≤ Op.cmpValue (FP.dcmp r FP.dconst1) CmpOp.g then 0 else dbN f (FP.dmul r d2c) + 1
def dbO : Nat → UInt64 → Bool
  | 0, _ => false
  | f + 1, r => if 0 ≤ Op.cmpValue (FP.dcmp r FP.dconst1) CmpOp.g then true else vfb (FP.dmul r d2c) && dbO f (FP.dmul r d2c)
def bdR (v : UInt64) : UInt64 := dbR 12 (hvR 14 v)
/-- a double whose bits both sides find -/
def okD (v : UInt64) : Bool := decide (Op.cmpValue (FP.dcmp v FP.dconst0) CmpOp.l = 0 ∧ Op.cmpValue (FP.dcmp v FP.dconst0) CmpOp.g = 0) || (decide (0 < Op.cmpValue (FP.dcmp v FP.dconst0) CmpOp.l ∧ 0 < Op.cmpValue (FP.dcmp v FP.dconst0) CmpOp.g) && (hvO 14 v && (dbO 12 (hvR 14 v) && (vfb (FP.dsub (bdR v) FP.dconst1) && vfb (FP.dmul (FP.dsub (bdR v) FP.dconst1) d52)))))
def bitD (v : UInt64) : Int64 := if Op.cmpValue (FP.dcmp v FP.dconst0) CmpOp.l = 0 then 0 else (1023 + lN (hvN 14 v) - lN (dbN 12 (hvR 14 v))) * 4503599627370496 + FP.d2l (FP.dmul (FP.dsub (bdR v) FP.dconst1) d52)
/-- the mean of the heights -/
def mnD (x : Int32) : UInt64 := FP.ddiv (FP.i2d x) 4620693217682128896
/-- the mean is a number, 999 at most -/
def okM (n : Nat) : Bool := vfb (mnD (nI n)) && (decide (7992 < n) || decide (Op.cmpValue (FP.dcmp (mnD (nI n)) 4651998512748167168) CmpOp.g ≤ 0))
def okAll : Nat → Nat → Bool
  | 0, n => okM n
  | d + 1, n => okAll d n && okAll d (n + 2 ^ d)
theorem okAll_s : ∀ (d n : Nat), okAll d n = true → ∀ k, n ≤ k → k < n + 2 ^ d → okM k = true
  | 0, n, h, k, h1, h2 => by
    have e : k = n := by
      have : (2 : Nat) ^ 0 = 1 := rfl
      omega
    subst e
    exact h
  | d + 1, n, h, k, h1, h2 => by
    have h3 : okAll d n = true ∧ okAll d (n + 2 ^ d) = true := by
      have h4 : (okAll d n && okAll d (n + 2 ^ d)) = true := h
      rw [Bool.and_eq_true] at h4
      exact h4
    have e : (2 : Nat) ^ (d + 1) = 2 ^ d + 2 ^ d := by rw [Nat.pow_succ]; omega
    rcases Nat.lt_or_ge k (n + 2 ^ d) with w | w
    · exact okAll_s d n h3.1 k h1 w
    · exact okAll_s d (n + 2 ^ d) h3.2 k w (by omega)
theorem okM_0 : okAll 10 0 = true := by decide +kernel
theorem okM_1 : okAll 10 1024 = true := by decide +kernel
theorem okM_2 : okAll 10 2048 = true := by decide +kernel
theorem okM_3 : okAll 10 3072 = true := by decide +kernel
theorem okM_4 : okAll 10 4096 = true := by decide +kernel
theorem okM_5 : okAll 10 5120 = true := by decide +kernel
theorem okM_6 : okAll 10 6144 = true := by decide +kernel
theorem okM_7 : okAll 10 7168 = true := by decide +kernel
theorem okM_all {n : Nat} (h : n < 8192) : okM n = true := by
  rcases (show n < 1024 ∨ (1024 ≤ n ∧ n < 2048) ∨ (2048 ≤ n ∧ n < 3072) ∨ (3072 ≤ n ∧ n < 4096) ∨ (4096 ≤ n ∧ n < 5120) ∨ (5120 ≤ n ∧ n < 6144) ∨ (6144 ≤ n ∧ n < 7168) ∨ (7168 ≤ n ∧ n < 8192) by omega) with q | q | q | q | q | q | q | q
  · exact okAll_s 10 0 okM_0 n (by omega) (by omega)
  · exact okAll_s 10 1024 okM_1 n q.1 (by omega)
  · exact okAll_s 10 2048 okM_2 n q.1 (by omega)
  · exact okAll_s 10 3072 okM_3 n q.1 (by omega)
  · exact okAll_s 10 4096 okM_4 n q.1 (by omega)
  · exact okAll_s 10 5120 okM_5 n q.1 (by omega)
  · exact okAll_s 10 6144 okM_6 n q.1 (by omega)
  · exact okAll_s 10 7168 okM_7 n q.1 (by omega)
theorem okM_of {x : Int32} (h : 0 ≤ x.toInt ∧ x.toInt ≤ 7992) : vf_n64 (mnD x) ∧ Op.cmpValue (FP.dcmp (mnD x) 4651998512748167168) CmpOp.g ≤ 0 := by
  have e := nI_back h.1
  have l := clamp_le (n := 7992) h.1 h.2 (by decide)
  have k := okM_all (n := x.toNatClampNeg) (by omega)
  unfold okM at k
  rw [← e, Bool.and_eq_true] at k
  rw [Bool.or_eq_true] at k
  refine ⟨vfb_n k.1, ?_⟩
  rcases k.2 with q | q
  · have := of_decide_eq_true q
    omega
  · exact of_decide_eq_true q

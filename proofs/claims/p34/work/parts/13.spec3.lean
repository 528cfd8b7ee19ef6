/-! the text -/
def cod (T : Nat → Int32) (z i : Nat) : Int32 := if i < z then T i else 0
def rdL (x : Int32) : Nat := if x = 102 ∨ x = 118 then 2 else if x = 100 ∨ x = 112 ∨ x = 110 then 3 else if x = 99 then 4 else if x = 104 then 5 else 0
def rdO (q : Nat) (x : Int32) : Nat :=
  if q = 1 then rdL x else if q = 2 then (if 48 ≤ x ∧ x ≤ 55 then 5 else 0) else if q = 3 then (if 48 ≤ x ∧ x ≤ 55 then 7 else 0)
  else if q = 4 then (if 48 ≤ x ∧ x ≤ 54 then 7 else 0) else if q = 5 then (if 49 ≤ x ∧ x ≤ 57 then 6 else 0)
  else if q = 6 then (if 48 ≤ x ∧ x ≤ 57 then 7 else if x = 59 then 1 else 0) else if q = 7 then (if x = 59 then 1 else 0) else 0
def rdS (T : Nat → Int32) : Nat → Nat
  | 0 => 1
  | i + 1 => rdO (rdS T i) (T i)
theorem rdL_lt (x : Int32) : rdL x < 8 := by
  unfold rdL
  repeat (first | decide | split)
theorem rdO_lt (q : Nat) (x : Int32) : rdO q x < 8 := by
  unfold rdO
  have := rdL_lt x
  repeat (first | assumption | decide | split)
theorem rdS_lt (T : Nat → Int32) : ∀ i, rdS T i < 8
  | 0 => (by decide : 1 < 8)
  | i + 1 => rdO_lt _ _
def epk (T : Nat → Int32) : Nat → Nat → Nat
  | 0, k => k
  | f + 1, k => if rdS T (k + 1) = 0 then k else epk T f (k + 1)
/-- the place of the first error -/
def epl (T : Nat → Int32) (z : Nat) : Nat := epk T z 0
theorem epk_s {T : Nat → Int32} {z k : Nat} (hk : k < z) (c : 0 < rdS T (k + 1)) : epk T (z - k) k = epk T (z - (k + 1)) (k + 1) := by
  have e : z - k = (z - (k + 1)) + 1 := by omega
  rw [e]
  simp only [epk]
  rw [if_neg (by omega)]
theorem epk_f {T : Nat → Int32} {z k v : Nat} (hk : k < z) (c : rdS T (k + 1) = 0) (h : epk T (z - k) k = v) : k = v := by
  have e : z - k = (z - (k + 1)) + 1 := by omega
  rw [e] at h
  simp only [epk] at h
  rw [if_pos c] at h
  exact h
theorem epk_o {T : Nat → Int32} {z k v : Nat} (hk : k ≤ z) (c : z ≤ k) (h : epk T (z - k) k = v) : z = v := by
  have e : z - k = 0 := by omega
  rw [e] at h
  have h2 : k = v := h
  omega
/-- the number that n signs from s on tell -/
def nmb (T : Nat → Int32) (z s : Nat) : Nat → Int32
  | 0 => 0
  | j + 1 => 10 * nmb T z s j + cod T z (s + j) - 48
theorem nmb_s {T : Nat → Int32} {z s k : Nat} (h : s ≤ k) : 10 * nmb T z s (k - s) + cod T z k - 48 = nmb T z s (k + 1 - s) := by
  have e : k + 1 - s = (k - s) + 1 := by omega
  have e2 : s + (k - s) = k := by omega
  rw [e]
  simp only [nmb]
  rw [e2]
theorem tsp {x : Int32} {lo : Int} {n : Nat} (h1 : ¬ x.toInt < lo) (h2 : ¬ lo + n < x.toInt) : ∃ k : Nat, k ≤ n ∧ x.toInt = lo + k := ⟨(x.toInt - lo).toNat, by omega, by omega⟩
theorem i32e {x y : Int32} (h : x.toInt = y.toInt) : x = y := Int32.toInt_inj.mp h
/-! the hours to come -/
def mkL (G : Nat → Nat → Int32) (L : Nat → Int32) (h : Nat) : Nat → Int32 := fun j => if G 6 j = 0 ∧ L j = -1000 then nI h else L j
def mkw (G : Nat → Nat → Int32) (L : Nat → Int32) (h i : Nat) : Nat → Int32 := fun j => if j < i then mkL G L h j else L j
theorem mkw_i (G : Nat → Nat → Int32) (L : Nat → Int32) (h i : Nat) : mkw G L h i i = L i := if_neg (Nat.lt_irrefl i)
theorem mkw_y {G : Nat → Nat → Int32} {L : Nat → Int32} {h i : Nat} (a : G 6 i = 0) (b : mkw G L h i i = -1000) (j : Nat) : upd (mkw G L h i) i (nI h) j = mkw G L h (i + 1) j := by
  rw [mkw_i] at b
  exact congrFun (up_lt (f := L) (g := mkL G L h) (if_pos ⟨a, b⟩).symm) j
theorem mkw_n {G : Nat → Nat → Int32} {L : Nat → Int32} {h i : Nat} (a : ¬ (G 6 i = 0 ∧ L i = -1000)) (j : Nat) : mkw G L h i j = mkw G L h (i + 1) j := by
  unfold mkw
  by_cases h1 : j < i
  · rw [if_pos h1, if_pos (by omega)]
  · rw [if_neg h1]
    by_cases h2 : j < i + 1
    · have e : j = i := by omega
      subst e
      rw [if_pos h2]
      exact (if_neg a).symm
    · rw [if_neg h2]
theorem mkw_n1 {G : Nat → Nat → Int32} {L : Nat → Int32} {h i : Nat} (a : ¬ G 6 i = 0) (j : Nat) : mkw G L h i j = mkw G L h (i + 1) j := mkw_n (fun z => a z.1) j
theorem mkw_n2 {G : Nat → Nat → Int32} {L : Nat → Int32} {h i : Nat} (a : ¬ mkw G L h i i = -1000) (j : Nat) : mkw G L h i j = mkw G L h (i + 1) j := mkw_n (fun z => a (by rw [mkw_i]; exact z.2)) j
theorem mkw_0 (G : Nat → Nat → Int32) (L : Nat → Int32) (h j : Nat) : L j = mkw G L h 0 j := (if_neg (Nat.not_lt_zero j)).symm
theorem mkw_o {G : Nat → Nat → Int32} {L : Nat → Int32} {h i j : Nat} (c : j < i) : mkw G L h i j = mkL G L h j := if_pos c
theorem rdL_out {x : Int32} (h : x.toInt < 99 ∨ (118 : Int) < x.toInt) : (0 : Int32) = nI (rdL x) := by
  have ne : ∀ k : Int32, (99 ≤ k.toInt ∧ k.toInt ≤ 118) → ¬ x = k := by
    intro k hk e
    subst e
    omega
  unfold rdL
  rw [if_neg (fun z => z.elim (ne 102 (by decide)) (ne 118 (by decide))), if_neg (fun z => z.elim (ne 100 (by decide)) (fun z => z.elim (ne 112 (by decide)) (ne 110 (by decide)))), if_neg (ne 99 (by decide)), if_neg (ne 104 (by decide))]
  rfl
theorem rdO_2 (x : Int32) : rdO 2 x = if 48 ≤ x ∧ x ≤ 55 then 5 else 0 := rfl
theorem rdO_3 (x : Int32) : rdO 3 x = if 48 ≤ x ∧ x ≤ 55 then 7 else 0 := rfl
theorem rdO_4 (x : Int32) : rdO 4 x = if 48 ≤ x ∧ x ≤ 54 then 7 else 0 := rfl
theorem rdO_5 (x : Int32) : rdO 5 x = if 49 ≤ x ∧ x ≤ 57 then 6 else 0 := rfl
theorem rdO_6 (x : Int32) : rdO 6 x = if 48 ≤ x ∧ x ≤ 57 then 7 else if x = 59 then 1 else 0 := rfl
theorem rdO_7 (x : Int32) : rdO 7 x = if x = 59 then 1 else 0 := rfl
theorem and_i {x p q : Int32} (h : ¬ x < p) (h2 : ¬ q < x) : p ≤ x ∧ x ≤ q := ⟨Int32.not_lt.mp h, Int32.not_lt.mp h2⟩
theorem and_1 {x p q : Int32} (h : x < p) : ¬ (p ≤ x ∧ x ≤ q) := fun z => absurd h (Int32.not_lt.mpr z.1)
theorem and_2 {x p q : Int32} (h : q < x) : ¬ (p ≤ x ∧ x ≤ q) := fun z => absurd h (Int32.not_lt.mpr z.2)

/-! what the law's looks and its picks are -/
def upN (v : Int32) (k : Nat) : Nat := v.toBitVec.toNat % 2 ^ 31 % k
theorem up_e (v : Int32) {k : Nat} (h0 : 0 < k) (hk : k < 2 ^ 31) : (v &&& 2147483647) - (v &&& 2147483647) / nI k * nI k = nI (upN v k) := by
  rw [pk_and v 31 (by decide)]
  exact pk_rem (Nat.mod_lt _ (by decide)) h0 hk
theorem up_lt9 (v : Int32) {k : Nat} (h0 : 0 < k) : upN v k < k := Nat.mod_lt _ h0
def bq (S : Nat → Nat → Int32) (i : Nat) : Int32 := balS S (i / 12) (i % 12)
def lkC (S : Nat → Nat → Int32) : Nat → Int64 → Int64
  | 0, h => h
  | i + 1, h => 31 * (31 * lkC S i h + (ntl S (cy S) (i / 3) (i % 3)).toInt64) + (if i < 35 then ribS S (i / 5) (i % 5) else 0).toInt64
/-- the hash that the law looks at -/
def lkS (S : Nat → Nat → Int32) : Int64 := 31 * (31 * lkC S 60 (hm (bq S) 96 (hm (cntS S 0) 14 127)) + (stoS S 0).toInt64) + (stoS S 1).toInt64
theorem cnt_z {S : Nat → Nat → Int32} {z w : Nat} (h : w < 14) : cntS S z w = cntS S 0 w := by
  rcases (show w = 0 ∨ w = 1 ∨ w = 2 ∨ w = 3 ∨ w = 4 ∨ w = 5 ∨ w = 6 ∨ w = 7 ∨ w = 8 ∨ w = 9 ∨ w = 10 ∨ w = 11 ∨ w = 12 ∨ w = 13 by omega) with rfl | rfl | rfl | rfl | rfl | rfl | rfl | rfl | rfl | rfl | rfl | rfl | rfl | rfl <;> rfl
theorem lkC_a {S : Nat → Nat → Int32} {i : Nat} (h : Int64) (c : i < 35) : 31 * (31 * lkC S i h + (ntl S (cy S) (i / 3) (i % 3)).toInt64) + (ribS S (i / 5) (i % 5)).toInt64 = lkC S (i + 1) h := by
  simp only [lkC]
  rw [if_pos c]
theorem lkC_b {S : Nat → Nat → Int32} {i : Nat} (h : Int64) (c : ¬ i < 35) : 31 * (31 * lkC S i h + (ntl S (cy S) (i / 3) (i % 3)).toInt64) + (0 : Int32).toInt64 = lkC S (i + 1) h := by
  simp only [lkC]
  rw [if_neg c]
/-! sums -/
theorem a_ba (a b : Int32) : a + (b - a) = b := by
  rw [Int32.add_comm, Int32.sub_eq_add_neg, Int32.add_assoc, Int32.add_left_neg, Int32.add_zero]
theorem sm_cg {f g : Nat → Int32} : ∀ n, (∀ j, j < n → f j = g j) → sm f n = sm g n
  | 0, _ => rfl
  | n + 1, h => by
    show sm f n + f n = sm g n + g n
    rw [sm_cg n (fun j hj => h j (by omega)), h n (by omega)]
theorem sm_i {f : Nat → Int32} {B : Int} (hB : 0 ≤ B) (hB2 : B ≤ 1000) : ∀ n, n ≤ 8 → (∀ j, j < n → 0 ≤ (f j).toInt ∧ (f j).toInt ≤ B) → (sm f n).toInt = gs f n ∧ 0 ≤ gs f n ∧ gs f n ≤ B * n
  | 0, _, _ => ⟨rfl, Int.le_refl 0, by show (0 : Int) ≤ B * ((0 : Nat) : Int); omega⟩
  | n + 1, hn, h => by
    obtain ⟨e1, e2, e3⟩ := sm_i hB hB2 n (by omega) (fun j hj => h j (by omega))
    have h2 := h n (by omega)
    have h3 : B * (n : Int) ≤ 1000 * 8 := Int.mul_le_mul hB2 (by omega) (by omega) (by omega)
    have e : (sm f (n + 1)).toInt = (sm f n).toInt + (f n).toInt := i_add (by omega) (by omega) (by omega) (by omega)
    have h4 : B * ((n + 1 : Nat) : Int) = B * (n : Int) + B := by rw [Int.natCast_add, Int.mul_add]; simp
    show (sm f (n + 1)).toInt = gs f n + (f n).toInt ∧ 0 ≤ gs f n + (f n).toInt ∧ gs f n + (f n).toInt ≤ B * ((n + 1 : Nat) : Int)
    rw [e, e1, h4]
    exact ⟨rfl, by omega, by omega⟩
theorem gs_le {f g : Nat → Int32} : ∀ n, (∀ j, j < n → (f j).toInt ≤ (g j).toInt) → gs f n ≤ gs g n
  | 0, _ => Int.le_refl _
  | n + 1, h => by
    have h1 := gs_le n (fun j hj => h j (by omega))
    have h2 := h n (by omega)
    show gs f n + (f n).toInt ≤ gs g n + (g n).toInt
    omega
theorem sm_le9 {f g : Nat → Int32} (hf : ∀ j, j < 8 → 0 ≤ (f j).toInt ∧ (f j).toInt ≤ 999) (hg : ∀ j, j < 8 → 0 ≤ (g j).toInt ∧ (g j).toInt ≤ 999) (h : ∀ j, j < 8 → (f j).toInt ≤ (g j).toInt) : (sm f 8).toInt ≤ (sm g 8).toInt ∧ 0 ≤ (sm f 8).toInt ∧ (sm g 8).toInt ≤ 7992 := by
  have h1 := sm_i (f := f) (B := 999) (by decide) (by decide) 8 (by decide) hf
  have h2 := sm_i (f := g) (B := 999) (by decide) (by decide) 8 (by decide) hg
  have h3 := gs_le 8 h
  omega
theorem b1_y {p : Prop} [Decidable p] (h : p) : (1 : Int32) = b1 p := (if_pos h).symm
theorem b1_n {p : Prop} [Decidable p] (h : ¬ p) : (0 : Int32) = b1 p := (if_neg h).symm
theorem b1_cg {p q : Prop} [Decidable p] [Decidable q] (h : p ↔ q) : b1 p = b1 q := by
  unfold b1
  by_cases c : p
  · rw [if_pos c, if_pos (h.mp c)]
  · rw [if_neg c, if_neg (fun d => c (h.mpr d))]
theorem b1_01 (p : Prop) [Decidable p] : b1 p = 0 ∨ b1 p = 1 := by
  unfold b1
  by_cases c : p
  · rw [if_pos c]; exact Or.inr rfl
  · rw [if_neg c]; exact Or.inl rfl
theorem b1_e {p : Prop} [Decidable p] (h : b1 p = 1) : p := Classical.byContradiction fun c => by
  unfold b1 at h
  rw [if_neg c] at h
  exact absurd h (by decide)
theorem b1_ne {p : Prop} [Decidable p] (h : ¬ b1 p = 1) : ¬ p := fun c => h (if_pos c)
/-! the law's 'holds', piece by piece -/
section HF
variable {S : Nat → Nat → Int32}
theorem hb6 (h : OK S) {j : Nat} (hj : j < 8) : hbs S j = S 6 j := by rw [hbs_ht h.1 hj, h.2.1]
theorem h6_in (h : OK S) {j : Nat} (hj : j < 8) : 0 ≤ (S 6 j).toInt ∧ (S 6 j).toInt ≤ 999 := by rw [h.2.1]; exact ht_in h.1 hj
theorem h6_nn (h : OK S) {j : Nat} (hj : j < 8) : ¬ S 6 j < 0 := fun c => by
  have h1 := Int32.lt_iff_toInt_lt.mp c
  have h2 := (h6_in h hj).1
  have e : (0 : Int32).toInt = 0 := rfl
  omega
theorem h6_wt (h : OK S) {j : Nat} (hj : j < 8) : S 6 j ≤ wt S j := Int32.le_iff_toInt_le.mpr (by rw [h.2.1]; exact ht_wt hj)
theorem hi_top (f : Nat → Int32) : ∀ n j, j ≤ n → f j ≤ f (hiN f n)
  | 0, j, h => by
    have e : j = 0 := by omega
    subst e
    exact Int32.le_refl _
  | n + 1, j, h => by
    simp only [hiN]
    by_cases c : f (hiN f n) < f (n + 1)
    · rw [if_pos c]
      by_cases e : j = n + 1
      · subst e; exact Int32.le_refl _
      · exact Int32.le_trans (hi_top f n j (by omega)) (Int32.le_of_lt c)
    · rw [if_neg c]
      by_cases e : j = n + 1
      · subst e; exact Int32.not_lt.mp c
      · exact hi_top f n j (by omega)
theorem h6_hi {j : Nat} (hj : j < 8) : S 6 j ≤ S 6 (hiN (S 6) 7) := hi_top (S 6) 7 j (by omega)
theorem wt_lt {j : Nat} (c : 10 * lift S j < 0) : 0 = wt S j := by
  unfold wt mx mn
  have h1 : 10 * lift S j < 999 := Int32.lt_trans c (by decide)
  rw [if_pos h1, if_neg (Int32.not_lt.mpr (Int32.le_of_lt c))]
theorem wt_le {j : Nat} (c : ¬ 10 * lift S j < 0) (d : 10 * lift S j ≤ 999) : 10 * lift S j = wt S j := by
  unfold wt mx mn
  have h0 : (0 : Int32).toInt = 0 := rfl
  have h9 : (999 : Int32).toInt = 999 := rfl
  have d2 := Int32.le_iff_toInt_le.mp d
  have c2 := Int32.le_iff_toInt_le.mp (Int32.not_lt.mp c)
  by_cases e : 10 * lift S j < 999
  · rw [if_pos e]
    by_cases g : (0 : Int32) < 10 * lift S j
    · rw [if_pos g]
    · have g2 := Int32.le_iff_toInt_le.mp (Int32.not_lt.mp g)
      rw [if_neg g]
      exact Int32.toInt_inj.mp (by omega)
  · have e2 := Int32.le_iff_toInt_le.mp (Int32.not_lt.mp e)
    rw [if_neg e, if_pos (by decide)]
    exact Int32.toInt_inj.mp (by omega)
theorem wt_gt {j : Nat} (d : ¬ 10 * lift S j ≤ 999) : 999 = wt S j := by
  unfold wt mx mn
  rw [if_neg (fun q => d (Int32.le_of_lt q)), if_pos (by decide)]
theorem tel_d {j : Nat} (c : S 10 j = 0) : tel S j = S 6 j := by
  unfold tel
  rw [c, Int32.zero_mul]
  exact Int32.add_zero _
theorem tel_h {j : Nat} (c : S 12 0 - S 11 j = 0) : tel S j = S 6 j := by
  unfold tel
  rw [c, Int32.mul_zero]
  exact Int32.add_zero _
theorem lnd_ne {j : Nat} (c : ¬ S 6 j = 0) : ∀ N, N < 1000 → ¬ Lnd S N j = 0
  | 0, _ => by
    show ¬ mkL S (fun _ => -1000) 0 j = 0
    unfold mkL
    rw [if_neg (fun q => c q.1)]
    show ¬ (-1000 : Int32) = 0
    decide
  | N + 1, h => by
    show ¬ mkL (itf S (N + 1)) (Lnd S N) (N + 1) j = 0
    unfold mkL
    by_cases d : itf S (N + 1) 6 j = 0 ∧ Lnd S N j = -1000
    · rw [if_pos d]
      intro q
      have e := congrArg Int32.toInt q
      have e0 : (0 : Int32).toInt = 0 := rfl
      rw [nI_toInt (by omega), e0] at e
      omega
    · rw [if_neg d]
      exact lnd_ne c N (by omega)
theorem lnd_0 {j N : Nat} (hN : N < 1000) : Lnd S N j = 0 ↔ S 6 j = 0 :=
  ⟨fun h => Classical.byContradiction fun c => lnd_ne c N hN h, fun h => Lnd_yes (S := S) (b := j) (n := 0) (by decide) (fun q hq => absurd hq (Nat.not_lt_zero q)) h N (Nat.zero_le N)⟩
theorem drp_1 (h : OK S) {j : Nat} (hj : j < 8) : drpS S j 1 = -1000 ↔ S 1 j = 0 :=
  ⟨fun e => Classical.byContradiction fun c => by
    have h1 := (drp1_in h.1 hj c).1
    rw [e] at h1
    exact absurd h1 (by decide), fun c => (drp_z c).symm⟩
theorem pul_z {r : Nat} (c : S 3 r = 0) : pulC S r = 0 := if_pos c
theorem pul_nn (h : OK S) {r : Nat} (hr : r < 7) : ¬ pulC S r < 0 := by
  unfold pulC
  by_cases c : S 3 r = 0
  · rw [if_pos c]; decide
  · rw [if_neg c]
    by_cases d : S 6 (upr S r) - S 6 (if upr S r = r then r + 1 else r) = S 4 r
    · rw [if_pos d]
      have h1 := upr_le S r
      have h2 := h6_in h (j := upr S r) (by omega)
      have h3 := Int32.le_iff_toInt_le.mp (h6_wt h (j := upr S r) (by omega))
      have h4 := wt_in S (upr S r)
      intro q
      have q2 := Int32.lt_iff_toInt_lt.mp q
      have e : (0 : Int32).toInt = 0 := rfl
      rw [i_sub (by omega) (by omega) (by omega) (by omega), e] at q2
      omega
    · rw [if_neg d]; decide
theorem ap_1 (h : OK S) {r : Nat} (hr : r < 7) (c : ¬ S 3 r = 0) : S 6 r - S 6 (r + 1) ≤ S 4 r ∧ -(S 6 r - S 6 (r + 1)) ≤ S 4 r := by
  have h1 := ht_tied h.1 hr c
  have h2 := h6_in h (j := r) (by omega)
  have h3 := h6_in h (j := r + 1) (by omega)
  rw [← h.2.1] at h1
  have e1 : (S 6 r - S 6 (r + 1)).toInt = (S 6 r).toInt - (S 6 (r + 1)).toInt := i_sub (by omega) (by omega) (by omega) (by omega)
  have e2 : (-(S 6 r - S 6 (r + 1))).toInt = (S 6 (r + 1)).toInt - (S 6 r).toInt := by
    have := i_sub (x := 0) (y := S 6 r - S 6 (r + 1)) (by decide) (by decide) (by omega) (by omega)
    have z : (0 : Int32).toInt = 0 := rfl
    rw [Int32.zero_sub, z] at this
    omega
  exact ⟨Int32.le_iff_toInt_le.mpr (by omega), Int32.le_iff_toInt_le.mpr (by omega)⟩
theorem wn5_0 {r : Nat} : wn5 S r = 0 ↔ ¬ S 3 r = 0 := by
  unfold wn5
  by_cases c : S 3 r = 0
  · rw [if_pos c]
    exact ⟨fun q => absurd q (by decide), fun q => absurd c q⟩
  · rw [if_neg c]
    exact ⟨fun _ => c, fun _ => rfl⟩
theorem gas_2 {M : Int} (h : OK S) (hA : AC M S) (hM : M ≤ 900000000) : 480 + S 12 1 - S 12 2 - S 12 3 = sm (S 0) 8 := by
  obtain ⟨⟨a1, a2⟩, a3, a4, a5⟩ := hA
  have h1 := sm_i (f := S 0) (B := 200) (by decide) (by decide) 8 (by decide) (fun j hj => (h.1.1 j hj).1)
  have e1 : (480 + S 12 1).toInt = 480 + (S 12 1).toInt := i_add (by decide) (by decide) (by omega) (by omega)
  have e2 : (480 + S 12 1 - S 12 2).toInt = 480 + (S 12 1).toInt - (S 12 2).toInt := by rw [i_sub (by omega) (by omega) (by omega) (by omega), e1]
  have e3 : (480 + S 12 1 - S 12 2 - S 12 3).toInt = 480 + (S 12 1).toInt - (S 12 2).toInt - (S 12 3).toInt := by rw [i_sub (by omega) (by omega) (by omega) (by omega), e2]
  exact Int32.toInt_inj.mp (by omega)
theorem ntl_in {y r w : Nat} (h : r < y) : ntl S y r w = S (7 + w) r := if_pos h
theorem ntl_out {y w : Nat} : ntl S y y w = -1000 := if_neg (Nat.lt_irrefl y)
end HF

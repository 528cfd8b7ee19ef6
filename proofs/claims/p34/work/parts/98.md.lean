/-! what is told ahead -/
section AH
variable {S : Nat → Nat → Int32}
theorem i_mul {x y : Int32} (h : -100000 ≤ x.toInt) (h2 : x.toInt ≤ 100000) (h3 : 0 ≤ y.toInt) (h4 : y.toInt ≤ 20) : (y * x).toInt = y.toInt * x.toInt := by
  rw [Int32.toInt_mul]
  have h5 : y.toInt * x.toInt ≤ 20 * 100000 := by
    rcases Int.le_total 0 x.toInt with q | q
    · exact Int.mul_le_mul h4 h2 q (by omega)
    · have := Int.mul_nonpos_of_nonneg_of_nonpos h3 q
      omega
  have h6 : -(20 * 100000) ≤ y.toInt * x.toInt := by
    have e : y.toInt * (-x.toInt) = -(y.toInt * x.toInt) := Int.mul_neg _ _
    rcases Int.le_total 0 x.toInt with q | q
    · have := Int.mul_nonneg h3 q
      omega
    · have := Int.mul_le_mul (a := y.toInt) (b := -x.toInt) (c := 20) (d := 100000) h4 (by omega) (by omega) (by omega)
      omega
  exact Int.bmod_eq_of_le (by omega) (by omega)
theorem lift_i {F : Nat → Nat → Int32} (h : GB F) {b : Nat} (hb : b < 8) : (lift F b).toInt = (F 0 b).toInt - 10 - 5 * (F 1 b).toInt := by
  obtain ⟨⟨a1, a2⟩, ⟨a3, a4⟩, -⟩ := h.1 b hb
  have t10 : (10 : Int32).toInt = 10 := rfl
  have t5 : (5 : Int32).toInt = 5 := rfl
  have e1 : (5 * F 1 b).toInt = 5 * (F 1 b).toInt := by rw [i_mul (by omega) (by omega) (by decide) (by decide), t5]
  have e2 : (F 0 b - 10).toInt = (F 0 b).toInt - 10 := by rw [i_sub (by omega) (by omega) (by decide) (by decide), t10]
  unfold lift
  rw [i_sub (by omega) (by omega) (by omega) (by omega), e2, e1]
theorem wt_i {F : Nat → Nat → Int32} (h : GB F) {b : Nat} (hb : b < 8) : (wt F b).toInt = max 0 (min 999 (10 * ((F 0 b).toInt - 10 - 5 * (F 1 b).toInt))) := by
  obtain ⟨⟨a1, a2⟩, ⟨a3, a4⟩, -⟩ := h.1 b hb
  have hl := lift_i h hb
  have t10 : (10 : Int32).toInt = 10 := rfl
  have t0 : (0 : Int32).toInt = 0 := rfl
  have t9 : (999 : Int32).toInt = 999 := rfl
  have e1 : (10 * lift F b).toInt = 10 * (lift F b).toInt := by rw [i_mul (by omega) (by omega) (by decide) (by decide), t10]
  unfold wt
  rw [mx_toInt, mn_min, e1, t0, t9, hl]
  split <;> omega
/-! a bag dropped -/
theorem bag_1 (h : OK S) {k : Nat} (hk : k < 8) (c : ¬ S 1 k ≤ 0) : ¬ S 1 k = 0 ∧ wn2 S k = 0 ∧ 1 ≤ (S 1 k).toInt := by
  have h0 : ¬ S 1 k = 0 := fun q => c (by rw [q]; exact Int32.le_refl _)
  refine ⟨h0, if_neg h0, ?_⟩
  have c2 := Int32.lt_iff_toInt_lt.mp (Int32.not_le.mp c)
  have e : (0 : Int32).toInt = 0 := rfl
  omega
theorem dro_up (h : OK S) {k : Nat} (hk : k < 8) (c : ¬ S 1 k = 0) {j : Nat} (hj : j < 8) : (ht S j).toInt ≤ (ht (dpF S k) j).toInt := by
  have hG := GB_dp h.1 hk c
  refine ht_mono h.1 hG (fun q hq => ?_) (fun r hr d => ⟨d, rfl⟩) hj
  rw [wt_i h.1 hq, wt_i hG hq]
  have e0 : dpF S k 0 q = S 0 q := rfl
  have e1 : dpF S k 1 q = upd (S 1) k (S 1 k - 1) q := rfl
  rw [e0, e1]
  by_cases e : q = k
  · subst e
    rw [upd_s]
    have b1 := (h.1.1 q hq).2.1
    have t1 : (1 : Int32).toInt = 1 := rfl
    have : (S 1 q - 1).toInt = (S 1 q).toInt - 1 := by rw [i_sub (by omega) (by omega) (by decide) (by decide), t1]
    omega
  · rw [upd_n _ _ e]
    exact Int.le_refl _
theorem dr_ge (h : OK S) {k : Nat} (hk : k < 8) (c : ¬ S 1 k = 0) : ¬ drpS S k 1 < sm (S 6) 8 := by
  have hG := GB_dp h.1 hk c
  have e : drpS S k 1 = sm (ht (dpF S k)) 8 := (drp1 c).symm
  have h1 := sm_le9 (f := S 6) (g := ht (dpF S k)) (fun j hj => h6_in h hj) (fun j hj => ht_in hG hj) (fun j hj => by rw [h.2.1]; exact dro_up h hk c hj)
  rw [e]
  intro q
  have := Int32.lt_iff_toInt_lt.mp q
  omega
theorem dr_h {k : Nat} (c : ¬ S 1 k = 0) : ht (droS S k) k = drpS S k 0 := by
  rw [← drp0 c]
  exact ht_rows (F := droS S k) (G := dpF S k) rfl rfl rfl rfl k
theorem dr_s {k : Nat} (c : ¬ S 1 k = 0) : sm (mended (droS S k) 6) 8 = drpS S k 1 := by
  rw [← drp1 c]
  unfold hsm
  refine sm_cg 8 (fun j _ => ?_)
  show ht (droS S k) j = ht (dpF S k) j
  exact ht_rows (F := droS S k) (G := dpF S k) rfl rfl rfl rfl j
/-! a ribbon cut -/
theorem cut_G (h : OK S) (r : Nat) : GB (cutS S r) := ⟨h.1.1, fun q hq => ⟨upd01 (fun q hq => (h.1.2 q hq).1) (Or.inl rfl) q hq, (h.1.2 q hq).2⟩⟩
theorem cut_up (h : OK S) {r j : Nat} (hj : j < 8) : (ht S j).toInt ≤ (ht (cutS S r) j).toInt := by
  refine ht_mono h.1 (cut_G h r) (fun q hq => by rw [wt_cg (F := cutS S r) (G := S) rfl rfl]; exact Int.le_refl _) (fun q hq d => ⟨?_, rfl⟩) hj
  have d2 : ¬ upd (S 3) r 0 q = 0 := d
  by_cases e : q = r
  · exact absurd (by rw [e, upd_s]) d2
  · rw [upd_n _ _ e] at d2
    exact d2
theorem cut_ge (h : OK S) (r : Nat) : ¬ sm (ht (cutS S r)) 8 - sm (S 6) 8 < 0 := by
  have h1 := sm_le9 (f := S 6) (g := ht (cutS S r)) (fun j hj => h6_in h hj) (fun j hj => ht_in (cut_G h r) hj) (fun j hj => by rw [h.2.1]; exact cut_up h hj)
  have e : (0 : Int32).toInt = 0 := rfl
  intro q
  have q2 := Int32.lt_iff_toInt_lt.mp q
  rw [i_sub (by omega) (by omega) (by omega) (by omega), e] at q2
  omega
theorem cut_s (r : Nat) : sm (mended (cutS S r) 6) 8 = sm (S 6) 8 + (sm (ht (cutS S r)) 8 - sm (S 6) 8) := (a_ba _ _).symm
theorem cut_0 (r : Nat) : b1 (¬ mended (cutS S r) 3 r = 0) = 0 := if_neg (fun q => q (upd_s (S 3) r 0))
/-! a ribbon tied -/
theorem tye_0 {r : Nat} {x : Int32} (c : wnt S r x = 0) : S 3 r = 0 ∧ ¬ x < (if 0 ≤ S 6 r - S 6 (r + 1) then S 6 r - S 6 (r + 1) else 0 - (S 6 r - S 6 (r + 1))) := by
  unfold wnt at c
  by_cases d : S 3 r = 0
  · rw [if_pos d] at c
    refine ⟨d, fun q => ?_⟩
    rw [if_pos q] at c
    exact absurd c (by decide)
  · rw [if_neg d] at c
    exact absurd c (by decide)
theorem tye_d (h : OK S) {r : Nat} (hr : r < 7) {x : Int32} (c : wnt S r x = 0) : (ht S r).toInt - (ht S (r + 1)).toInt ≤ x.toInt ∧ (ht S (r + 1)).toInt - (ht S r).toInt ≤ x.toInt := by
  obtain ⟨-, c2⟩ := tye_0 c
  have h2 := h6_in h (j := r) (by omega)
  have h3 := h6_in h (j := r + 1) (by omega)
  rw [← h.2.1]
  have e1 : (S 6 r - S 6 (r + 1)).toInt = (S 6 r).toInt - (S 6 (r + 1)).toInt := i_sub (by omega) (by omega) (by omega) (by omega)
  have z : (0 : Int32).toInt = 0 := rfl
  have e2 : (0 - (S 6 r - S 6 (r + 1))).toInt = (S 6 (r + 1)).toInt - (S 6 r).toInt := by rw [i_sub (by decide) (by decide) (by omega) (by omega), z]; omega
  have c3 := Int32.le_iff_toInt_le.mp (Int32.not_lt.mp c2)
  by_cases d : 0 ≤ S 6 r - S 6 (r + 1)
  · have d2 := Int32.le_iff_toInt_le.mp d
    rw [if_pos d] at c3
    omega
  · have d2 := Int32.lt_iff_toInt_lt.mp (Int32.not_le.mp d)
    rw [if_neg d] at c3
    omega
/-- a longer ribbon can be tied too -/
theorem tye_w {r : Nat} {x y : Int32} (c : wnt S r x = 0) (hxy : x ≤ y) : wnt S r y = 0 := by
  obtain ⟨c1, c2⟩ := tye_0 c
  unfold wnt
  rw [if_pos c1, if_neg (fun q => c2 (Int32.lt_of_le_of_lt hxy q))]
theorem tye_s (h : OK S) {r : Nat} (hr : r < 7) (c : wnt S r 100 = 0) : sm (mended (tieS S r 100) 6) 8 = sm (S 6) 8 := by
  refine sm_cg 8 (fun j hj => ?_)
  show ht (tieS S r 100) j = S 6 j
  rw [h.2.1]
  exact ht_tie h.1 hr (tye_0 c).1 (by decide) (tye_d h hr c) hj
theorem tye_n {r : Nat} (hr : r < 7) : ¬ nI (se (mended (tieS S r 100)) (7 - r) r - ss (mended (tieS S r 100)) r + 1) < 2 := by
  have c : ¬ mended (tieS S r 100) 3 r = 0 := by
    show ¬ upd (S 3) r 1 r = 0
    rw [upd_s]
    decide
  have h1 := se_s (F := mended (tieS S r 100)) hr c
  have h2 := se_ge (mended (tieS S r 100)) (7 - (r + 1)) (r + 1)
  have h3 := ss_le (mended (tieS S r 100)) r
  rw [h1]
  generalize se (mended (tieS S r 100)) (7 - (r + 1)) (r + 1) = q at *
  generalize ss (mended (tieS S r 100)) r = w at *
  intro d
  have d2 := Int32.lt_iff_toInt_lt.mp d
  have e : (2 : Int32).toInt = 2 := rfl
  rw [nI_toInt (by omega), e] at d2
  omega
/-! an hour passed -/
theorem due_1 (j : Nat) (c : S 2 j ≤ S 0 j) : S 2 j = lks S j := by
  unfold lks mn
  by_cases d : S 2 j < S 0 j
  · rw [if_pos d]
  · rw [if_neg d]
    exact Int32.le_antisymm c (Int32.not_lt.mp d)
theorem due_2 (j : Nat) (c : ¬ S 2 j ≤ S 0 j) : S 0 j = lks S j := by
  unfold lks mn
  rw [if_neg (fun d => c (Int32.le_of_lt d))]
theorem svn_01 (F : Nat → Nat → Int32) : svn F = 0 ∨ svn F = 1 := by
  unfold svn
  split
  · exact Or.inl rfl
  · exact Or.inr rfl
theorem pas_nn (F : Nat → Nat → Int32) {n : Nat} (hn : n ≤ 100) : ¬ hrs F n 12 4 - F 12 4 < 0 := by
  rw [pas_eq]
  have h := (sm_toInt (f := fun k => svn (hrs F k)) (B := 1) (by decide) n (fun j _ => by rcases svn_01 (hrs F j) with q | q <;> rw [q] <;> decide) (by omega)).2.1
  intro q
  have q2 := Int32.lt_iff_toInt_lt.mp q
  have e : (0 : Int32).toInt = 0 := rfl
  omega
theorem pas_1 (F : Nat → Nat → Int32) : hrs F 1 12 4 - F 12 4 = svn F := by
  rw [pas_eq]
  show (0 : Int32) + svn (hrs F 0) = svn F
  rw [Int32.zero_add]
  rfl
theorem pas_m (F : Nat → Nat → Int32) : ¬ 1 < hrs F 1 12 4 - F 12 4 := by
  rw [pas_1]
  rcases svn_01 F with q | q <;> rw [q] <;> decide
theorem fst_n1 {F : Nat → Nat → Int32} (c : svn F ≤ 0) : ∀ N, N < 1000 → ¬ Fst F N = 1
  | 0, _ => by
    show ¬ (-1000 : Int32) = 1
    decide
  | N + 1, h => by
    show ¬ (if 0 < svN (fh (itf F N)) ∧ Fst F N = -1000 then nI (N + 1) else Fst F N) = 1
    by_cases d : 0 < svN (fh (itf F N)) ∧ Fst F N = -1000
    · rw [if_pos d]
      by_cases e : N = 0
      · subst e
        have d1 := d.1
        rw [svN_svn F 0] at d1
        exact absurd c (Int32.not_le.mpr d1)
      · intro q
        have q2 := congrArg Int32.toInt q
        have e1 : (1 : Int32).toInt = 1 := rfl
        rw [nI_toInt (by omega), e1] at q2
        omega
    · rw [if_neg d]
      exact fst_n1 c N (by omega)
theorem snp_1 {N : Nat} (h0 : 0 < N) (hN : N < 1000) : hrs S 1 12 4 - S 12 4 = 1 ↔ Fst S N = 1 := by
  rw [pas_1]
  rcases svn_01 S with q | q
  · rw [q]
    exact ⟨fun h => absurd h (by decide), fun h => absurd h (fst_n1 (by rw [q]; decide) N hN)⟩
  · rw [q]
    exact ⟨fun _ => Fst_yes (S := S) (n := 0) (by decide) (fun j hj => absurd hj (Nat.not_lt_zero j)) (by show ¬ svn S ≤ 0; rw [q]; decide) N h0, fun _ => rfl⟩
/-- the ribbon that snaps is one that is tied -/
theorem sn_tied {F : Nat → Nat → Int32} (h : ∀ r, r < 7 → 0 ≤ (F 5 r).toInt) : ∀ n, n ≤ 7 → (sn F n).1 = -1000 ∨ ∃ k, k < n ∧ (sn F n).1 = nI k ∧ ¬ F 3 k = 0
  | 0, _ => Or.inl rfl
  | n + 1, hn => by
    simp only [sn]
    by_cases c : F 5 n < pulC F n ∧ (sn F n).2 < pulC F n
    · rw [if_pos c]
      refine Or.inr ⟨n, by omega, rfl, fun q => ?_⟩
      have e : pulC F n = 0 := if_pos q
      have c1 := Int32.lt_iff_toInt_lt.mp c.1
      have z : (0 : Int32).toInt = 0 := rfl
      have := h n (by omega)
      rw [e, z] at c1
      omega
    · rw [if_neg c]
      rcases sn_tied h n (by omega) with q | ⟨k, q1, q2, q3⟩
      · exact Or.inl q
      · exact Or.inr ⟨k, by omega, q2, q3⟩
theorem sm_one {f : Nat → Int32} {k : Nat} (c : ¬ f k = 0) : ∀ n, k < n → sm (fun j => b1 (¬ upd f k 0 j = 0)) n = sm (fun j => b1 (¬ f j = 0)) n - 1
  | 0, h => absurd h (Nat.not_lt_zero k)
  | n + 1, h => by
    show sm (fun j => b1 (¬ upd f k 0 j = 0)) n + b1 (¬ upd f k 0 n = 0) = sm (fun j => b1 (¬ f j = 0)) n + b1 (¬ f n = 0) - 1
    by_cases e : k = n
    · subst e
      have e1 : sm (fun j => b1 (¬ upd f k 0 j = 0)) k = sm (fun j => b1 (¬ f j = 0)) k := sm_cg k (fun j hj => by rw [upd_n _ _ (by omega)])
      have e2 : b1 (¬ upd f k 0 k = 0) = 0 := if_neg (fun q => q (upd_s f k 0))
      have e3 : b1 (¬ f k = 0) = 1 := if_pos c
      rw [e1, e2, e3, Int32.add_zero, Int32.add_sub_cancel]
    · have e1 : b1 (¬ upd f k 0 n = 0) = b1 (¬ f n = 0) := by rw [upd_n _ _ (Ne.symm e)]
      rw [e1, sm_one c n (by omega), Int32.sub_eq_add_neg, Int32.sub_eq_add_neg, Int32.add_assoc, Int32.add_assoc, Int32.add_comm (-1)]
theorem pas_t (h : OK S) : sm (fun j => b1 (¬ hrs S 1 3 j = 0)) 7 = sm (fun j => b1 (¬ S 3 j = 0)) 7 - (hrs S 1 12 4 - S 12 4) := by
  rw [pas_1]
  have e3 : hrs S 1 3 = snT (hr2 S) := rfl
  rw [e3]
  unfold svn snT
  rcases sn_tied (F := hr2 S) (fun r hr => (h.1.2 r hr).2.2.1) 7 (Nat.le_refl 7) with q | ⟨k, q1, q2, q3⟩
  · rw [if_pos q, if_pos q, Int32.sub_zero]
    rfl
  · have e : ¬ (sn (hr2 S) 7).1 = -1000 := by rw [q2]; exact nI_n1000 (by omega)
    rw [if_neg e, if_neg e, q2, nI_clamp (by omega)]
    exact sm_one (f := S 3) q3 7 q1
end AH

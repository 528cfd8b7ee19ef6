/-! the height by all balloons of a string is the mended one -/
theorem mn_min (x y : Int32) : (mn x y).toInt = min x.toInt y.toInt := by
  rw [mn_toInt]
  split <;> omega
theorem fw_s (F : Nat → Nat → Int32) (k : Nat) : fw F (k + 1) = if F 3 k = 0 then wt F (k + 1) else mn (wt F (k + 1)) (fw F k + F 4 k) := rfl
theorem bk_s (F : Nat → Nat → Int32) (j : Nat) : bk F (j + 1) = if F 3 (6 - j) = 0 then fw F (6 - j) else mn (fw F (6 - j)) (bk F j + F 4 (6 - j)) := rfl
theorem dnS_s (F : Nat → Nat → Int32) (k : Nat) (x y : Int32) : dnS F (k + 1) x y = if F 3 k = 0 then x else dnS F k (mn x (wt F k + (y + F 4 k))) (y + F 4 k) := rfl
theorem upS_r (F : Nat → Nat → Int32) (n k : Nat) (x y : Int32) : upS F (n + 1) k x y = if F 3 k = 0 then x else upS F n (k + 1) (mn x (wt F (k + 1) + (y + F 4 k))) (y + F 4 k) := rfl
/-- the least from the right: rt F j is that of the balloon 7 - j -/
def rt (F : Nat → Nat → Int32) : Nat → Int32
  | 0 => wt F 7
  | j + 1 => if F 3 (6 - j) = 0 then wt F (6 - j) else mn (wt F (6 - j)) (rt F j + F 4 (6 - j))
theorem rt_s (F : Nat → Nat → Int32) (j : Nat) : rt F (j + 1) = if F 3 (6 - j) = 0 then wt F (6 - j) else mn (wt F (6 - j)) (rt F j + F 4 (6 - j)) := rfl
theorem fw_le {F : Nat → Nat → Int32} (k : Nat) : (fw F k).toInt ≤ (wt F k).toInt := by
  cases k with
  | zero => exact Int.le_refl _
  | succ k =>
    rw [fw_s]
    by_cases c : F 3 k = 0
    · rw [if_pos c]; exact Int.le_refl _
    · rw [if_neg c, mn_min]
      omega
/-- one step's numbers -/
theorem st_add {x y : Int32} (h1 : 0 ≤ x.toInt) (h2 : x.toInt ≤ 100000) (h3 : 0 ≤ y.toInt) (h4 : y.toInt ≤ 100000) : (x + y).toInt = x.toInt + y.toInt := i_add (by omega) (by omega) (by omega) (by omega)
theorem mn3 {x w f l y : Int32} (hx : 0 ≤ x.toInt ∧ x.toInt ≤ 1000) (hw : 0 ≤ w.toInt ∧ w.toInt ≤ 1000) (hf : 0 ≤ f.toInt ∧ f.toInt ≤ 1000) (hl : 0 ≤ l.toInt ∧ l.toInt ≤ 300) (hy : 0 ≤ y.toInt ∧ y.toInt ≤ 5000) : mn (mn x (w + y)) (f + (y + l)) = mn x (mn w (f + l) + y) := by
  have e1 := st_add (x := y) (y := l) (by omega) (by omega) (by omega) (by omega)
  have e2 := st_add (x := f) (y := y + l) (by omega) (by omega) (by omega) (by omega)
  have e3 := st_add (x := w) (y := y) (by omega) (by omega) (by omega) (by omega)
  have e4 := st_add (x := f) (y := l) (by omega) (by omega) (by omega) (by omega)
  have e5 : (mn w (f + l)).toInt = min w.toInt (f + l).toInt := mn_min _ _
  have e6 := st_add (x := mn w (f + l)) (y := y) (by omega) (by omega) (by omega) (by omega)
  refine Int32.toInt_inj.mp ?_
  rw [mn_min, mn_min, mn_min, e2, e3, e6, e5, e4, e1]
  omega
theorem dn_eq {F : Nat → Nat → Int32} (h : GB F) (k : Nat) : ∀ (x y : Int32), k < 8 → 0 ≤ x.toInt ∧ x.toInt ≤ 1000 → 0 ≤ y.toInt ∧ y.toInt ≤ 4000 - 300 * k → dnS F k x y = if k = 0 ∨ F 3 (k - 1) = 0 then x else mn x (fw F (k - 1) + (y + F 4 (k - 1))) := by
  induction k with
  | zero => intro x y _ _ _; rw [if_pos (Or.inl rfl)]; rfl
  | succ k ih =>
    intro x y hk hx hy
    have hl := (h.2 k (by omega)).2.1
    have hw := wt_in F k
    have e1 := st_add (x := y) (y := F 4 k) (by omega) (by omega) (by omega) (by omega)
    have e2 := st_add (x := wt F k) (y := y + F 4 k) (by omega) (by omega) (by omega) (by omega)
    have e3 : (mn x (wt F k + (y + F 4 k))).toInt = min x.toInt (wt F k + (y + F 4 k)).toInt := mn_min _ _
    rw [dnS_s, Nat.add_sub_cancel]
    by_cases c : F 3 k = 0
    · rw [if_pos c, if_pos (Or.inr c)]
    · rw [if_neg c, if_neg (fun q => q.elim (by omega) c), ih _ _ (by omega) (by omega) (by omega)]
      cases k with
      | zero => rw [if_pos (Or.inl rfl)]; rfl
      | succ q =>
        rw [Nat.add_sub_cancel]
        by_cases d : F 3 q = 0
        · rw [if_pos (Or.inr d), fw_s, if_pos d]
        · rw [if_neg (fun z => z.elim (by omega) d), fw_s, if_neg d]
          exact mn3 hx ⟨hw.1, by omega⟩ (by have := fw_in h q (by omega); omega) (h.2 q (by omega)).2.1 (by omega)
theorem dn_fw {F : Nat → Nat → Int32} (h : GB F) {b : Nat} (hb : b < 8) : dnS F b (wt F b) 0 = fw F b := by
  have hw := wt_in F b
  have z : (0 : Int32).toInt = 0 := rfl
  rw [dn_eq h b _ _ hb (by omega) (by omega)]
  cases b with
  | zero => rw [if_pos (Or.inl rfl)]; rfl
  | succ q =>
    rw [Nat.add_sub_cancel, fw_s]
    by_cases d : F 3 q = 0
    · rw [if_pos (Or.inr d), if_pos d]
    · rw [if_neg (fun z => z.elim (by omega) d), if_neg d, Int32.zero_add]
theorem rt_in {F : Nat → Nat → Int32} (h : GB F) (j : Nat) : j < 8 → 0 ≤ (rt F j).toInt ∧ (rt F j).toInt ≤ (wt F (7 - j)).toInt := by
  induction j with
  | zero => intro _; exact ⟨(wt_in F 7).1, Int.le_refl _⟩
  | succ j ih =>
    intro hj
    have h1 := ih (by omega)
    have hw := wt_in F (6 - j)
    have hw2 := wt_in F (7 - j)
    have hl := (h.2 (6 - j) (by omega)).2.1
    have e1 := st_add (x := rt F j) (y := F 4 (6 - j)) (by omega) (by omega) (by omega) (by omega)
    rw [show 7 - (j + 1) = 6 - j by omega, rt_s]
    by_cases c : F 3 (6 - j) = 0
    · rw [if_pos c]; omega
    · rw [if_neg c, mn_min]
      omega
theorem bk_rt {F : Nat → Nat → Int32} (h : GB F) (j : Nat) : j < 8 → (bk F j).toInt = min (rt F j).toInt (fw F (7 - j)).toInt := by
  induction j with
  | zero =>
    intro _
    have e := fw_le (F := F) 7
    show (fw F 7).toInt = min (wt F 7).toInt (fw F 7).toInt
    omega
  | succ j ih =>
    intro hj
    have h1 := ih (by omega)
    have hb := bk_in h j (by omega)
    have hr := rt_in h j (by omega)
    have hw := wt_in F (6 - j)
    have hw2 := wt_in F (7 - j)
    have hl := (h.2 (6 - j) (by omega)).2.1
    have hf := fw_le (F := F) (6 - j)
    have hf2 := fw_in h (6 - j) (by omega)
    have hf3 := fw_in h (7 - j) (by omega)
    have e7 : 7 - j = (6 - j) + 1 := by omega
    rw [show 7 - (j + 1) = 6 - j by omega, bk_s, rt_s]
    by_cases c : F 3 (6 - j) = 0
    · rw [if_pos c, if_pos c]
      omega
    · have e2 := st_add (x := fw F (6 - j)) (y := F 4 (6 - j)) (by omega) (by omega) (by omega) (by omega)
      have ef : (fw F (7 - j)).toInt = min (wt F (7 - j)).toInt ((fw F (6 - j)).toInt + (F 4 (6 - j)).toInt) := by
        rw [e7, fw_s, if_neg c, mn_min, e2]
      have e3 := st_add (x := bk F j) (y := F 4 (6 - j)) (by omega) (by omega) (by omega) (by omega)
      have e4 := st_add (x := rt F j) (y := F 4 (6 - j)) (by omega) (by omega) (by omega) (by omega)
      rw [if_neg c, if_neg c, mn_min, mn_min, e3, e4]
      omega
theorem up_eq {F : Nat → Nat → Int32} (h : GB F) (n : Nat) : ∀ (k : Nat) (x y : Int32), n + k = 7 → 0 ≤ x.toInt ∧ x.toInt ≤ 1000 → 0 ≤ y.toInt ∧ y.toInt ≤ 4000 - 300 * n → upS F n k x y = if n = 0 ∨ F 3 k = 0 then x else mn x (rt F (n - 1) + (y + F 4 k)) := by
  induction n with
  | zero => intro k x y _ _ _; rw [if_pos (Or.inl rfl)]; rfl
  | succ n ih =>
    intro k x y hk hx hy
    have hl := (h.2 k (by omega)).2.1
    have hw := wt_in F (k + 1)
    have e1 := st_add (x := y) (y := F 4 k) (by omega) (by omega) (by omega) (by omega)
    have e2 := st_add (x := wt F (k + 1)) (y := y + F 4 k) (by omega) (by omega) (by omega) (by omega)
    have e3 : (mn x (wt F (k + 1) + (y + F 4 k))).toInt = min x.toInt (wt F (k + 1) + (y + F 4 k)).toInt := mn_min _ _
    rw [upS_r, Nat.add_sub_cancel]
    by_cases c : F 3 k = 0
    · rw [if_pos c, if_pos (Or.inr c)]
    · rw [if_neg c, if_neg (fun q => q.elim (by omega) c), ih _ _ _ (by omega) (by omega) (by omega)]
      cases n with
      | zero =>
        rw [if_pos (Or.inl rfl)]
        have e : k = 6 := by omega
        subst e
        rfl
      | succ q =>
        have ek : 6 - q = k + 1 := by omega
        rw [Nat.add_sub_cancel, rt_s, ek]
        by_cases d : F 3 (k + 1) = 0
        · rw [if_pos (Or.inr d), if_pos d]
        · rw [if_neg (fun z => z.elim (by omega) d), if_neg d]
          exact mn3 hx ⟨hw.1, by omega⟩ (by have := rt_in h q (by omega); have := wt_in F (7 - q); omega) (h.2 (k + 1) (by omega)).2.1 (by omega)
theorem hbs_ht {F : Nat → Nat → Int32} (h : GB F) {b : Nat} (hb : b < 8) : hbs F b = ht F b := by
  have hf := fw_in h b hb
  have hfl := fw_le (F := F) b
  have z : (0 : Int32).toInt = 0 := rfl
  unfold hbs
  rw [dn_fw h hb, up_eq h (7 - b) b _ _ (by omega) (by omega) (by omega)]
  by_cases c7 : b = 7
  · subst c7
    rw [if_pos (Or.inl rfl)]
    rfl
  · have hs := ht_step F (t := b) (by omega)
    by_cases c : F 3 b = 0
    · rw [if_pos (Or.inr c), hs, if_pos c]
    · rw [if_neg (fun q => q.elim (by omega) c), Int32.zero_add]
      have hk := bk_rt h (7 - b) (by omega)
      have hr := rt_in h (7 - b - 1) (by omega)
      have hw := wt_in F (7 - (7 - b - 1))
      have hl := (h.2 b (by omega)).2.1
      have e := st_add (x := rt F (7 - b - 1)) (y := F 4 b) (by omega) (by omega) (by omega) (by omega)
      have er : rt F (7 - b) = mn (wt F b) (rt F (7 - b - 1) + F 4 b) := by
        obtain ⟨q, hq⟩ : ∃ q, 7 - b = q + 1 := ⟨7 - b - 1, by omega⟩
        rw [hq, Nat.add_sub_cancel, rt_s, show 6 - q = b by omega, if_neg c]
      refine Int32.toInt_inj.mp ?_
      show _ = (bk F (7 - b)).toInt
      rw [hk, er, mn_min, mn_min, e, show 7 - (7 - b) = b by omega]
      omega

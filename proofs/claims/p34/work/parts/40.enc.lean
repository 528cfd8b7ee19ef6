/-! the reference's row: nine areas of 130 numbers, each a state's matrix -/
def brw : Nat → Nat
  | 0 => 0
  | 1 => 1
  | 2 => 2
  | 3 => 10
  | _ => 11
def dcR (m : Nat) : Nat := if m < 9 then 12 else if m < 49 then brw ((m - 9) % 5) else if m < 70 then 3 + (m - 49) % 3 else 7 + (m - 70) % 3
def dcI (m : Nat) : Nat := if m < 9 then m else if m < 49 then (m - 9) / 5 else if m < 70 then (m - 49) / 3 else (m - 70) / 3
def offO (r i : Nat) : Nat := if r = 12 then i else if r = 10 then 9 + 5 * i + 3 else if r = 11 then 9 + 5 * i + 4 else if r < 3 then 9 + 5 * i + r else if r < 6 then 49 + 3 * i + (r - 3) else 70 + 3 * i + (r - 7)
theorem off_dc : ∀ m, m < 130 → offO (dcR m) (dcI m) = m := by decide +kernel
theorem dcR_6 : ∀ m, m < 130 → dcR m ≠ 6 := by decide +kernel
def enc (A : Nat → Nat → Nat → Int32) : Nat → Int32 := fun i => A (i / 130) (dcR (i % 130)) (dcI (i % 130))
def uA (A : Nat → Nat → Nat → Int32) (a : Nat) (M : Nat → Nat → Int32) : Nat → Nat → Nat → Int32 := fun k => if k = a then M else A k
def u2 (M : Nat → Nat → Int32) (r i : Nat) (v : Int32) : Nat → Nat → Int32 := uR M r (upd (M r) i v)
theorem enc_at (A : Nat → Nat → Nat → Int32) {a m : Nat} (h : m < 130) : enc A (130 * a + m) = A a (dcR m) (dcI m) := by
  unfold enc
  rw [show (130 * a + m) / 130 = a by omega, show (130 * a + m) % 130 = m by omega]
theorem enc_upd (A : Nat → Nat → Nat → Int32) {a m : Nat} (h : m < 130) (v : Int32) : upd (enc A) (130 * a + m) v = enc (uA A a (u2 (A a) (dcR m) (dcI m) v)) := by
  funext i
  have hi : i % 130 < 130 := Nat.mod_lt _ (by decide)
  unfold upd
  by_cases c : i = 130 * a + m
  · rw [if_pos c, c, enc_at _ h]
    unfold uA u2
    rw [if_pos rfl, uR_s, upd_s]
  · rw [if_neg c]
    unfold enc uA
    by_cases c2 : i / 130 = a
    · rw [if_pos c2]
      have hm : i % 130 ≠ m := by omega
      unfold u2
      by_cases c3 : dcR (i % 130) = dcR m
      · have c4 : dcI (i % 130) ≠ dcI m := by
          intro c4
          have e1 := off_dc _ hi
          have e2 := off_dc _ h
          rw [c3, c4, e2] at e1
          exact hm e1.symm
        rw [c3, uR_s, upd_n _ _ c4, c2]
      · rw [uR_n _ _ c3, c2]
    · rw [if_neg c2]
theorem uA_s (A : Nat → Nat → Nat → Int32) (a : Nat) (M : Nat → Nat → Int32) : uA A a M a = M := if_pos rfl
theorem uA_n (A : Nat → Nat → Nat → Int32) {a k : Nat} (M : Nat → Nat → Int32) (h : k ≠ a) : uA A a M k = A k := if_neg h
theorem uA_two (A : Nat → Nat → Nat → Int32) (a : Nat) (M N : Nat → Nat → Int32) : uA (uA A a M) a N = uA A a N := by
  funext k
  unfold uA
  by_cases h : k = a
  · rw [if_pos h, if_pos h]
  · rw [if_neg h, if_neg h, if_neg h]
theorem uA_id (A : Nat → Nat → Nat → Int32) (a : Nat) : uA A a (A a) = A := by
  funext k
  unfold uA
  by_cases h : k = a
  · rw [if_pos h, h]
  · rw [if_neg h]
/-- places of an area -/
theorem dcR_b {k w : Nat} (hk : k < 8) (hw : w < 5) : dcR (9 + 5 * k + w) = brw w := by
  unfold dcR
  rw [if_neg (by omega), if_pos (by omega), show (9 + 5 * k + w - 9) % 5 = w by omega]
theorem dcI_b {k w : Nat} (hk : k < 8) (hw : w < 5) : dcI (9 + 5 * k + w) = k := by
  unfold dcI
  rw [if_neg (by omega), if_pos (by omega)]
  omega
theorem dcR_r {k w : Nat} (hk : k < 7) (hw : w < 3) : dcR (49 + 3 * k + w) = 3 + w := by
  unfold dcR
  rw [if_neg (by omega), if_neg (by omega), if_pos (by omega)]
  omega
theorem dcI_r {k w : Nat} (hk : k < 7) (hw : w < 3) : dcI (49 + 3 * k + w) = k := by
  unfold dcI
  rw [if_neg (by omega), if_neg (by omega), if_pos (by omega)]
  omega
theorem dcR_n {k w : Nat} (hw : w < 3) : dcR (70 + 3 * k + w) = 7 + w := by
  unfold dcR
  rw [if_neg (by omega), if_neg (by omega), if_neg (by omega)]
  omega
theorem dcI_n {k w : Nat} (hw : w < 3) : dcI (70 + 3 * k + w) = k := by
  unfold dcI
  rw [if_neg (by omega), if_neg (by omega), if_neg (by omega)]
  omega
theorem dcR_s {i : Nat} (h : i < 9) : dcR i = 12 := if_pos h
theorem dcI_s {i : Nat} (h : i < 9) : dcI i = i := if_pos h
theorem enc_b (A : Nat → Nat → Nat → Int32) {a k w : Nat} (hk : k < 8) (hw : w < 5) : enc A (130 * a + 9 + 5 * k + w) = A a (brw w) k := by
  have e : 130 * a + 9 + 5 * k + w = 130 * a + (9 + 5 * k + w) := by omega
  rw [e, enc_at A (by omega), dcR_b hk hw, dcI_b hk hw]
theorem enc_r (A : Nat → Nat → Nat → Int32) {a k w : Nat} (hk : k < 7) (hw : w < 3) : enc A (130 * a + 49 + 3 * k + w) = A a (3 + w) k := by
  have e : 130 * a + 49 + 3 * k + w = 130 * a + (49 + 3 * k + w) := by omega
  rw [e, enc_at A (by omega), dcR_r hk hw, dcI_r hk hw]
theorem enc_ub (A : Nat → Nat → Nat → Int32) {a k w : Nat} (hk : k < 8) (hw : w < 5) (v : Int32) : upd (enc A) (130 * a + 9 + 5 * k + w) v = enc (uA A a (u2 (A a) (brw w) k v)) := by
  have e : 130 * a + 9 + 5 * k + w = 130 * a + (9 + 5 * k + w) := by omega
  rw [e, enc_upd A (by omega), dcR_b hk hw, dcI_b hk hw]
theorem enc_ur (A : Nat → Nat → Nat → Int32) {a k w : Nat} (hk : k < 7) (hw : w < 3) (v : Int32) : upd (enc A) (130 * a + 49 + 3 * k + w) v = enc (uA A a (u2 (A a) (3 + w) k v)) := by
  have e : 130 * a + 49 + 3 * k + w = 130 * a + (49 + 3 * k + w) := by omega
  rw [e, enc_upd A (by omega), dcR_r hk hw, dcI_r hk hw]
theorem enc_us (A : Nat → Nat → Nat → Int32) {a i : Nat} (h : i < 9) (v : Int32) : upd (enc A) (130 * a + i) v = enc (uA A a (u2 (A a) 12 i v)) := by
  rw [enc_upd A (by omega), dcR_s h, dcI_s h]
/-- row 6 isn't held -/
theorem enc_6 (A : Nat → Nat → Nat → Int32) (a : Nat) (f : Nat → Int32) : enc (uA A a (uR (A a) 6 f)) = enc A := by
  funext i
  have hi : i % 130 < 130 := Nat.mod_lt _ (by decide)
  unfold enc uA
  by_cases c : i / 130 = a
  · rw [if_pos c, uR_n _ _ (dcR_6 _ hi), c]
  · rw [if_neg c]
/-- all heights together -/
def hsm (F : Nat → Nat → Int32) : Int32 := sm (ht F) 8
abbrev mdO (m0 m1 m2 m3 : Nat) (th sv kp ln ca lt fi se : Int32) (hs : Int64) : va_W := [(m0, .inr (7, [.int th, .ref m1, .int sv, .int kp, .ref m2, .int ln, .int ca, .int lt, .int fi, .int se, .ref m3, .long hs]))]
theorem les1 {x y : Int32} (c : y ≤ x) : y = mn x y := by
  unfold mn
  by_cases h : y < x
  · rw [if_pos h]
  · rw [if_neg h]
    exact Int32.toInt_inj.mp (by have := Int32.le_iff_toInt_le.mp c; have h2 := Int32.not_lt.mp h; have := Int32.le_iff_toInt_le.mp h2; omega)
theorem les2 {x y : Int32} (c : ¬ y ≤ x) : x = mn x y := by
  unfold mn
  rw [if_neg (fun h => c (Int32.le_iff_toInt_le.mpr (by have := Int32.lt_iff_toInt_lt.mp h; omega)))]
theorem b1_z {p : Prop} [Decidable p] (c : b1 p = 0) : ¬ p := by
  intro h
  unfold b1 at c
  rw [if_pos h] at c
  exact absurd c (by decide)
theorem b1_t {p : Prop} [Decidable p] (c : ¬ b1 p = 0) : p := by
  unfold b1 at c
  by_cases h : p
  · exact h
  · rw [if_neg h] at c; exact absurd rfl c
theorem tie_1 {x : Int32} (c : x = 1) : 1 = b1 (¬ x = 0) := by
  subst c
  rfl
theorem tie_0 {x : Int32} (h : x = 0 ∨ x = 1) (c : ¬ x = 1) : 0 = b1 (¬ x = 0) := by
  rcases h with h | h
  · subst h; rfl
  · exact absurd h c
def rw1 (F : Nat → Nat → Int32) (h : Nat → Int32) (i : Nat) : Nat → Int32 := fun j => if j < i then fw F j else h j
theorem rw1_0 (F : Nat → Nat → Int32) (h : Nat → Int32) (j : Nat) : h j = rw1 F h 0 j := (if_neg (Nat.not_lt_zero j)).symm
theorem rw1_g {F : Nat → Nat → Int32} {h : Nat → Int32} {i : Nat} {x : Int32} (e : x = fw F i) (j : Nat) : upd (rw1 F h i) i x j = rw1 F h (i + 1) j := congrFun (up_lt (f := h) (g := fw F) e) j
theorem rw1_a {F : Nat → Nat → Int32} {h : Nat → Int32} {i : Nat} (c : i = 0) (j : Nat) : upd (rw1 F h i) i (wt F i) j = rw1 F h (i + 1) j := rw1_g (by subst c; rfl) j
theorem fw_b {F : Nat → Nat → Int32} {i : Nat} (hi : 0 < i) (c : F 3 (i - 1) = 0) : wt F i = fw F i := by
  obtain ⟨k, rfl⟩ : ∃ k, i = k + 1 := ⟨i - 1, by omega⟩
  rw [Nat.add_sub_cancel] at c
  simp only [fw]
  rw [if_pos c]
theorem fw_c {F : Nat → Nat → Int32} {i : Nat} (hi : 0 < i) (c : ¬ F 3 (i - 1) = 0) : mn (wt F i) (fw F (i - 1) + F 4 (i - 1)) = fw F i := by
  obtain ⟨k, rfl⟩ : ∃ k, i = k + 1 := ⟨i - 1, by omega⟩
  rw [Nat.add_sub_cancel] at c ⊢
  simp only [fw]
  rw [if_neg c]
theorem rw1_b {F : Nat → Nat → Int32} {h : Nat → Int32} {i : Nat} (hi : 0 < i) (c : b1 (¬ F 3 (i - 1) = 0) = 0) (j : Nat) : upd (rw1 F h i) i (wt F i) j = rw1 F h (i + 1) j := rw1_g (fw_b hi (Decidable.not_not.mp (b1_z c))) j
theorem rw1_c {F : Nat → Nat → Int32} {h : Nat → Int32} {i : Nat} (hi : 0 < i) (c : ¬ b1 (¬ F 3 (i - 1) = 0) = 0) (j : Nat) : upd (upd (rw1 F h i) i (wt F i)) i (mn (upd (rw1 F h i) i (wt F i) i) (upd (rw1 F h i) i (wt F i) (i - 1) + F 4 (i - 1))) j = rw1 F h (i + 1) j := by
  have e1 : upd (rw1 F h i) i (wt F i) i = wt F i := upd_s _ _ _
  have e2 : upd (rw1 F h i) i (wt F i) (i - 1) = fw F (i - 1) := by
    rw [upd_n _ _ (by omega)]
    exact if_pos (by omega)
  rw [e1, e2, fw_c hi (b1_t c)]
  by_cases hj : j = i
  · subst hj
    rw [upd_s]
    exact (if_pos (Nat.lt_succ_self _)).symm
  · rw [upd_n _ _ hj, upd_n _ _ hj]
    unfold rw1
    by_cases h1 : j < i
    · rw [if_pos h1, if_pos (by omega)]
    · rw [if_neg h1, if_neg (by omega)]
theorem rw1_o {F : Nat → Nat → Int32} {h : Nat → Int32} {i j : Nat} (c : 8 ≤ i) (hj : j < 8) : rw1 F h i j = w3 F 7 j := by
  unfold rw1 w3
  rw [if_pos (by omega)]
  by_cases h7 : j < 7
  · rw [if_pos h7]
  · rw [if_neg h7]
    have e : j = 7 := by omega
    subst e
    rfl
theorem w3_f {F : Nat → Nat → Int32} {t : Nat} (ht7 : t < 7) (c : b1 (¬ F 3 t = 0) = 0) (j : Nat) : w3 F (t + 1) j = w3 F t j := by
  have c2 := Decidable.not_not.mp (b1_z c)
  have h := w3_step F ht7 j
  unfold cdn at h
  rw [show uR F 6 (w3 F (t + 1)) 3 = F 3 from rfl, if_pos c2] at h
  exact h
theorem w3_t {F : Nat → Nat → Int32} {t : Nat} (ht7 : t < 7) (c : ¬ b1 (¬ F 3 t = 0) = 0) (j : Nat) : upd (w3 F (t + 1)) t (mn (w3 F (t + 1) t) (w3 F (t + 1) (t + 1) + F 4 t)) j = w3 F t j := by
  have c2 := b1_t c
  have h := w3_step F ht7 j
  unfold cdn at h
  rw [show uR F 6 (w3 F (t + 1)) 3 = F 3 from rfl, if_neg c2] at h
  exact h
theorem wts_a {x : Int32} (c : ¬ 0 ≤ x) : 0 = mx 0 (mn 999 x) := by
  unfold mx mn
  have h0 : ¬ 0 < x := fun h => c (Int32.le_iff_toInt_le.mpr (by have := Int32.lt_iff_toInt_lt.mp h; omega))
  by_cases h : x < 999
  · rw [if_pos h, if_neg h0]
  · exact absurd (Int32.le_iff_toInt_le.mpr (by have h2 := Int32.le_iff_toInt_le.mp (Int32.not_lt.mp h); have : (999 : Int32).toInt = 999 := rfl; have : (0 : Int32).toInt = 0 := rfl; omega)) c
theorem wts_b {x : Int32} (d : ¬ x ≤ 999) : 999 = mx 0 (mn 999 x) := by
  unfold mx mn
  have h : ¬ x < 999 := fun h => d (Int32.le_iff_toInt_le.mpr (by have := Int32.lt_iff_toInt_lt.mp h; omega))
  rw [if_neg h]
  rfl
theorem wts_c {x : Int32} (c : 0 ≤ x) (d : x ≤ 999) : x = mx 0 (mn 999 x) := by
  have hx : mn 999 x = x := by
    unfold mn
    by_cases h : x < 999
    · rw [if_pos h]
    · rw [if_neg h]
      exact Int32.toInt_inj.mp (by have := Int32.le_iff_toInt_le.mp d; have := Int32.le_iff_toInt_le.mp (Int32.not_lt.mp h); omega)
  rw [hx]
  unfold mx
  by_cases h : 0 < x
  · rw [if_pos h]
  · rw [if_neg h]
    exact Int32.toInt_inj.mp (by have := Int32.le_iff_toInt_le.mp c; have := Int32.le_iff_toInt_le.mp (Int32.not_lt.mp h); omega)
theorem n_p1 {i : Nat} (h : 0 < i) : nI i - 1 = nI (i - 1) := by
  obtain ⟨k, rfl⟩ : ∃ k, i = k + 1 := ⟨i - 1, by omega⟩
  exact n_s1 k

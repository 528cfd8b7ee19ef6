/-! what the document says of balloons and ribbons, over the matrix of a state -/
def lift (F : Nat → Nat → Int32) (b : Nat) : Int32 := F 0 b - 10 - 5 * F 1 b
def wt (F : Nat → Nat → Int32) (b : Nat) : Int32 := mx 0 (mn 999 (10 * lift F b))
/-- along the row from the left -/
def fw (F : Nat → Nat → Int32) : Nat → Int32
  | 0 => wt F 0
  | k + 1 => if F 3 k = 0 then wt F (k + 1) else mn (wt F (k + 1)) (fw F k + F 4 k)
/-- and back: bk F j is the height of the balloon 7 - j -/
def bk (F : Nat → Nat → Int32) : Nat → Int32
  | 0 => fw F 7
  | j + 1 => if F 3 (6 - j) = 0 then fw F (6 - j) else mn (fw F (6 - j)) (bk F j + F 4 (6 - j))
def ht (F : Nat → Nat → Int32) (k : Nat) : Int32 := bk F (7 - k)
/-- the sum of f at 0 .. n - 1 -/
def sm (f : Nat → Int32) : Nat → Int32
  | 0 => 0
  | n + 1 => sm f n + f n
def mended (F : Nat → Nat → Int32) : Nat → Nat → Int32 := uR F 6 (ht F)
def b1 (p : Prop) [Decidable p] : Int32 := if p then 1 else 0
theorem up_lt {f g : Nat → Int32} {i : Nat} {x : Int32} (h : x = g i) : upd (fun j => if j < i then g j else f j) i x = fun j => if j < i + 1 then g j else f j := by
  funext j
  simp only [upd]
  by_cases h1 : j = i
  · subst h1; rw [if_pos rfl, if_pos (Nat.lt_succ_self _), h]
  · rw [if_neg h1]
    by_cases h2 : j < i
    · rw [if_pos h2, if_pos (by omega)]
    · rw [if_neg h2, if_neg (by omega)]
def cdn (F : Nat → Nat → Int32) (b q r : Nat) : Nat → Int32 := if F 3 r = 0 then F 6 else upd (F 6) b (mn (F 6 b) (F 6 q + F 4 r))
def w1 (F : Nat → Nat → Int32) (k : Nat) : Nat → Int32 := fun j => if j < k then wt F j else F 6 j
def w2 (F : Nat → Nat → Int32) (k : Nat) : Nat → Int32 := fun j => if j ≤ k then fw F j else wt F j
def w3 (F : Nat → Nat → Int32) (k : Nat) : Nat → Int32 := fun j => if j < k then fw F j else ht F j
theorem w2_step (F : Nat → Nat → Int32) (k j : Nat) : cdn (uR F 6 (w2 F k)) (k + 1) k k j = w2 F (k + 1) j := by
  have e3 : uR F 6 (w2 F k) 3 = F 3 := rfl
  have e4 : uR F 6 (w2 F k) 4 = F 4 := rfl
  have e6 : uR F 6 (w2 F k) 6 = w2 F k := rfl
  unfold cdn
  rw [e3, e4, e6]
  by_cases c : F 3 k = 0
  · rw [if_pos c]
    simp only [w2]
    by_cases h : j ≤ k
    · rw [if_pos h, if_pos (by omega)]
    · rw [if_neg h]
      by_cases h2 : j ≤ k + 1
      · have : j = k + 1 := by omega
        subst this
        rw [if_pos h2]; simp only [fw]; rw [if_pos c]
      · rw [if_neg h2]
  · rw [if_neg c]
    by_cases h : j = k + 1
    · subst h
      rw [upd_s]
      simp only [w2]
      rw [if_neg (by omega), if_pos (Nat.le_refl _), if_pos (Nat.le_refl _)]
      simp only [fw]; rw [if_neg c]
    · rw [upd_n _ _ h]
      simp only [w2]
      by_cases h2 : j ≤ k
      · rw [if_pos h2, if_pos (by omega)]
      · rw [if_neg h2, if_neg (by omega)]
theorem ht_step (F : Nat → Nat → Int32) {t : Nat} (h : t < 7) : ht F t = if F 3 t = 0 then fw F t else mn (fw F t) (ht F (t + 1) + F 4 t) := by
  have e : 7 - t = (6 - t) + 1 := by omega
  have e2 : 6 - (6 - t) = t := by omega
  have e3 : 7 - (t + 1) = 6 - t := by omega
  simp only [ht]
  rw [e, e3]
  simp only [bk]
  rw [e2]
theorem ht_7 (F : Nat → Nat → Int32) : ht F 7 = fw F 7 := rfl
theorem w3_step (F : Nat → Nat → Int32) {t : Nat} (h : t < 7) (j : Nat) : cdn (uR F 6 (w3 F (t + 1))) t (t + 1) t j = w3 F t j := by
  have e3 : uR F 6 (w3 F (t + 1)) 3 = F 3 := rfl
  have e4 : uR F 6 (w3 F (t + 1)) 4 = F 4 := rfl
  have e6 : uR F 6 (w3 F (t + 1)) 6 = w3 F (t + 1) := rfl
  unfold cdn
  rw [e3, e4, e6]
  have hs := ht_step F h
  by_cases c : F 3 t = 0
  · rw [if_pos c] at hs ⊢
    simp only [w3]
    by_cases h1 : j < t
    · rw [if_pos h1, if_pos (by omega)]
    · rw [if_neg h1]
      by_cases h2 : j < t + 1
      · have : j = t := by omega
        subst this
        rw [if_pos h2, hs]
      · rw [if_neg h2]
  · rw [if_neg c] at hs ⊢
    by_cases h1 : j = t
    · subst h1
      rw [upd_s]
      simp only [w3]
      rw [if_pos (Nat.lt_succ_self _), if_neg (Nat.lt_irrefl _), if_neg (Nat.lt_irrefl _), hs]
    · rw [upd_n _ _ h1]
      simp only [w3]
      by_cases h2 : j < t
      · rw [if_pos h2, if_pos (by omega)]
      · rw [if_neg h2, if_neg (by omega)]
def dnS (F : Nat → Nat → Int32) : Nat → Int32 → Int32 → Int32
  | 0, x, _ => x
  | k + 1, x, y => if F 3 k = 0 then x else dnS F k (mn x (wt F k + (y + F 4 k))) (y + F 4 k)
def upS (F : Nat → Nat → Int32) : Nat → Nat → Int32 → Int32 → Int32
  | 0, _, x, _ => x
  | n + 1, k, x, y => if F 3 k = 0 then x else upS F n (k + 1) (mn x (wt F (k + 1) + (y + F 4 k))) (y + F 4 k)
def hbs (F : Nat → Nat → Int32) (b : Nat) : Int32 := upS F (7 - b) b (dnS F b (wt F b) 0) 0
def ss (F : Nat → Nat → Int32) : Nat → Nat
  | 0 => 0
  | k + 1 => if F 3 k = 0 then k + 1 else ss F k
def se (F : Nat → Nat → Int32) : Nat → Nat → Nat
  | 0, k => k
  | n + 1, k => if F 3 k = 0 then k else se F n (k + 1)
theorem ss_le (F : Nat → Nat → Int32) : ∀ b, ss F b ≤ b
  | 0 => Nat.le_refl _
  | k + 1 => by
    simp only [ss]
    by_cases h : F 3 k = 0
    · rw [if_pos h]; exact Nat.le_refl _
    · rw [if_neg h]; exact Nat.le_succ_of_le (ss_le F k)
theorem se_ge (F : Nat → Nat → Int32) : ∀ n k, k ≤ se F n k ∧ se F n k ≤ k + n
  | 0, k => ⟨Nat.le_refl _, Nat.le_refl _⟩
  | n + 1, k => by
    simp only [se]
    by_cases h : F 3 k = 0
    · rw [if_pos h]; omega
    · rw [if_neg h]
      have := se_ge F n (k + 1)
      omega
def upr (F : Nat → Nat → Int32) (r : Nat) : Nat := if F 4 r = 0 then (if wt F r < wt F (r + 1) then r + 1 else r) else if F 6 r < F 6 (r + 1) then r + 1 else r
theorem upr_in (F : Nat → Nat → Int32) (r : Nat) : upr F r = r ∨ upr F r = r + 1 := by
  unfold upr
  by_cases h : F 4 r = 0
  · rw [if_pos h]
    by_cases h2 : wt F r < wt F (r + 1)
    · rw [if_pos h2]; exact Or.inr rfl
    · rw [if_neg h2]; exact Or.inl rfl
  · rw [if_neg h]
    by_cases h2 : F 6 r < F 6 (r + 1)
    · rw [if_pos h2]; exact Or.inr rfl
    · rw [if_neg h2]; exact Or.inl rfl
theorem upr_le (F : Nat → Nat → Int32) (r : Nat) : upr F r ≤ r + 1 := by
  rcases upr_in F r with h | h <;> omega
def pulC (F : Nat → Nat → Int32) (r : Nat) : Int32 := if F 3 r = 0 then 0 else if F 6 (upr F r) - F 6 (if upr F r = r then r + 1 else r) = F 4 r then wt F (upr F r) - F 6 (upr F r) else 0
def lkg (F : Nat → Nat → Int32) : Nat → Int32 := fun j => F 0 j - mn (F 0 j) (F 2 j)
def lks (F : Nat → Nat → Int32) : Nat → Int32 := fun j => mn (F 0 j) (F 2 j)
def sn (F : Nat → Nat → Int32) : Nat → Int32 × Int32
  | 0 => (-1000, 0)
  | r + 1 => if F 5 r < pulC F r ∧ (sn F r).2 < pulC F r then (nI r, pulC F r) else sn F r
theorem sn_nat (F : Nat → Nat → Int32) : ∀ n, (sn F n).1 = -1000 ∨ ∃ k, k < n ∧ (sn F n).1 = nI k
  | 0 => Or.inl rfl
  | r + 1 => by
    simp only [sn]
    by_cases h : F 5 r < pulC F r ∧ (sn F r).2 < pulC F r
    · rw [if_pos h]; exact Or.inr ⟨r, Nat.lt_succ_self _, rfl⟩
    · rw [if_neg h]
      rcases sn_nat F r with h2 | ⟨k, h2, h3⟩
      · exact Or.inl h2
      · exact Or.inr ⟨k, by omega, h3⟩
def snT (F : Nat → Nat → Int32) : Nat → Int32 := if (sn F 7).1 = -1000 then F 3 else upd (F 3) (sn F 7).1.toNatClampNeg 0
def hiN (f : Nat → Int32) : Nat → Nat
  | 0 => 0
  | n + 1 => if f (hiN f n) < f (n + 1) then n + 1 else hiN f n
theorem hiN_le (f : Nat → Int32) : ∀ n, hiN f n ≤ n
  | 0 => Nat.le_refl _
  | n + 1 => by
    simp only [hiN]
    by_cases h : f (hiN f n) < f (n + 1)
    · rw [if_pos h]; exact Nat.le_refl _
    · rw [if_neg h]; exact Nat.le_succ_of_le (hiN_le f n)
theorem hiN_step (f : Nat → Int32) {i : Nat} (h : 1 ≤ i) : hiN f i = if f (hiN f (i - 1)) < f i then i else hiN f (i - 1) := by
  obtain ⟨k, rfl⟩ : ∃ k, i = k + 1 := ⟨i - 1, by omega⟩
  rfl
def wnt (F : Nat → Nat → Int32) (r : Nat) (x : Int32) : Int32 := if F 3 r = 0 then (if x < (if 0 ≤ F 6 r - F 6 (r + 1) then F 6 r - F 6 (r + 1) else 0 - (F 6 r - F 6 (r + 1))) then 8 else 0) else 7
def wn0 (F : Nat → Nat → Int32) (b : Nat) (x : Int32) : Int32 := if 200 < F 0 b + x then 1 else if 0 < F 6 b then 2 else 0
def wn1 (F : Nat → Nat → Int32) (b : Nat) (x : Int32) : Int32 := if F 0 b < x then 3 else 0
def wn2 (F : Nat → Nat → Int32) (b : Nat) : Int32 := if F 1 b = 0 then 4 else 0
def wn3 (F : Nat → Nat → Int32) (b : Nat) : Int32 := if F 1 b < 10 then (if 0 < F 6 b then 6 else 0) else 5
def wn5 (F : Nat → Nat → Int32) (r : Nat) : Int32 := if F 3 r = 0 then 9 else 0
theorem fit01 {x : Int32} (h : x = 0 ∨ x = 1) : fits .boolean (.int x) = true := by
  rcases h with h | h <;> rw [h] <;> rfl
theorem nar01 {x : Int32} (h : x = 0 ∨ x = 1) : vp_nar .boolean x = x := by
  rcases h with h | h <;> rw [h] <;> rfl
theorem cpy_all {f g : Nat → Int32} {n : Nat} : ∀ j, j < n → va_cpy f g 0 0 n j = f j := by
  intro j hj
  rw [pk_cpy_in (Nat.zero_le _) (by omega)]
  congr 1
  omega
theorem w1_out (F : Nat → Nat → Int32) {i j : Nat} (h : 8 ≤ i) (hj : j < 8) : w1 F i j = w2 F 0 j := by
  simp only [w1, w2]
  rw [if_pos (by omega)]
  cases j with
  | zero => rfl
  | succ t => rw [if_neg (by omega)]
theorem w2_out (F : Nat → Nat → Int32) {k j : Nat} (h : 7 ≤ k) (hj : j < 8) : w2 F k j = w3 F 7 j := by
  simp only [w2, w3]
  rw [if_pos (by omega)]
  by_cases h7 : j < 7
  · rw [if_pos h7]
  · rw [if_neg h7]
    have h7 : j = 7 := by omega
    subst h7
    rfl
theorem w3_0 (F : Nat → Nat → Int32) (j : Nat) : w3 F 0 j = ht F j := by
  simp only [w3]
  rw [if_neg (Nat.not_lt_zero j)]
theorem hbs_o1 {F : Nat → Nat → Int32} {b k : Nat} {x y : Int32} (h : dnS F k x y = dnS F b (wt F b) 0) (c : nI k - 1 < 0) (hk : k < 2 ^ 31 := by omega) : upS F (7 - b) b x 0 = hbs F b := by
  obtain rfl := n_neg hk c
  unfold hbs
  rw [← h]
  rfl
theorem hbs_o2 {F : Nat → Nat → Int32} {b t : Nat} {x y : Int32} (h : dnS F (t + 1) x y = dnS F b (wt F b) 0) (c : F 3 t = 0) : upS F (7 - b) b x 0 = hbs F b := by
  unfold hbs
  rw [← h]
  simp only [dnS]
  rw [if_pos c]
theorem upS_s {F : Nat → Nat → Int32} {k : Nat} {x y : Int32} (hk : k < 7) (c : ¬ F 3 k = 0) : upS F (7 - k) k x y = upS F (7 - (k + 1)) (k + 1) (mn x (wt F (k + 1) + (y + F 4 k))) (y + F 4 k) := by
  have e : 7 - k = (7 - (k + 1)) + 1 := by omega
  rw [e]
  simp only [upS]
  rw [if_neg c]
theorem upS_o1 {F : Nat → Nat → Int32} {k : Nat} {x y z : Int32} (hk : 7 ≤ k) (h : upS F (7 - k) k x y = z) : x = z := by
  have e : 7 - k = 0 := by omega
  rw [e] at h
  exact h
theorem upS_o2 {F : Nat → Nat → Int32} {k : Nat} {x y z : Int32} (hk : k < 7) (h : upS F (7 - k) k x y = z) (c : F 3 k = 0) : x = z := by
  have e : 7 - k = (7 - (k + 1)) + 1 := by omega
  rw [e] at h
  simp only [upS] at h
  rw [if_pos c] at h
  exact h
theorem ss_s {F : Nat → Nat → Int32} {t : Nat} (c : ¬ F 3 t = 0) : ss F (t + 1) = ss F t := by
  simp only [ss]
  rw [if_neg c]
theorem ss_o1 {F : Nat → Nat → Int32} {k z : Nat} (c : k = 0) (h : ss F k = z) : k = z := by
  subst c
  exact h
theorem ss_o2 {F : Nat → Nat → Int32} {t z : Nat} (c : F 3 t = 0) (h : ss F (t + 1) = z) : t + 1 = z := by
  simp only [ss] at h
  rw [if_pos c] at h
  exact h
theorem se_s {F : Nat → Nat → Int32} {k : Nat} (hk : k < 7) (c : ¬ F 3 k = 0) : se F (7 - k) k = se F (7 - (k + 1)) (k + 1) := by
  have e : 7 - k = (7 - (k + 1)) + 1 := by omega
  rw [e]
  simp only [se]
  rw [if_neg c]
theorem se_o1 {F : Nat → Nat → Int32} {k z : Nat} (hk : 7 ≤ k) (h : se F (7 - k) k = z) : k = z := by
  have e : 7 - k = 0 := by omega
  rw [e] at h
  exact h
theorem se_o2 {F : Nat → Nat → Int32} {k z : Nat} (hk : k < 7) (c : F 3 k = 0) (h : se F (7 - k) k = z) : k = z := by
  have e : 7 - k = (7 - (k + 1)) + 1 := by omega
  rw [e] at h
  simp only [se] at h
  rw [if_pos c] at h
  exact h
theorem lt_no {x y : Int32} (h : y ≤ x) : ¬ x < y := Int32.not_lt.mpr h
theorem lt_yes {x y : Int32} (h : ¬ y ≤ x) : x < y := Int32.not_le.mp h
theorem sm_b1p {i : Nat} {p : Nat → Prop} [d : ∀ j, Decidable (p j)] (c : ¬ b1 (p i) = 0) : sm (fun j => b1 (p j)) i + 1 = sm (fun j => b1 (p j)) (i + 1) := by
  simp only [sm]
  congr 1
  unfold b1 at c ⊢
  by_cases h : p i
  · rw [if_pos h]
  · rw [if_neg h] at c; exact absurd rfl c
theorem sm_b1z {i : Nat} {p : Nat → Prop} [d : ∀ j, Decidable (p j)] (c : b1 (p i) = 0) : sm (fun j => b1 (p j)) i + 0 = sm (fun j => b1 (p j)) (i + 1) := by
  simp only [sm]
  rw [c]
def lkw (F : Nat → Nat → Int32) (i : Nat) : Nat → Int32 := fun j => if j < i then lkg F j else F 0 j
theorem lkw_0 (F : Nat → Nat → Int32) (j : Nat) : lkw F 0 j = F 0 j := if_neg (Nat.not_lt_zero j)
theorem lkw_i (F : Nat → Nat → Int32) (i : Nat) : lkw F i i = F 0 i := if_neg (Nat.lt_irrefl i)
theorem lkw_o (F : Nat → Nat → Int32) {i j : Nat} (h : j < i) : lkw F i j = lkg F j := if_pos h
theorem sn_y {F : Nat → Nat → Int32} {i : Nat} (a : ¬ pulC F i ≤ F 5 i) (b : ¬ pulC F i ≤ (sn F i).2) : sn F (i + 1) = (nI i, pulC F i) := if_pos ⟨lt_yes a, lt_yes b⟩
theorem sn_n1 {F : Nat → Nat → Int32} {i : Nat} (a : pulC F i ≤ F 5 i) : sn F (i + 1) = sn F i := if_neg (fun h => lt_no a h.1)
theorem sn_n2 {F : Nat → Nat → Int32} {i : Nat} (a : pulC F i ≤ (sn F i).2) : sn F (i + 1) = sn F i := if_neg (fun h => lt_no a h.2)
theorem lkw_s (F : Nat → Nat → Int32) {i : Nat} (j : Nat) : upd (lkw F i) i (lkw F i i - lks F i) j = lkw F (i + 1) j := by
  rw [lkw_i]
  exact congrFun (up_lt (f := F 0) (g := lkg F) rfl) j
/-- the heights rest on gas, bags, ties and lengths alone -/
theorem wt_cg {F G : Nat → Nat → Int32} {b : Nat} (h0 : F 0 b = G 0 b) (h1 : F 1 b = G 1 b) : wt F b = wt G b := by
  unfold wt lift
  rw [h0, h1]
theorem fw_cg {F G : Nat → Nat → Int32} : ∀ k, (∀ j, j ≤ k → F 0 j = G 0 j ∧ F 1 j = G 1 j) → (∀ j, j < k → F 3 j = G 3 j ∧ F 4 j = G 4 j) → fw F k = fw G k
  | 0, h, _ => by simp only [fw]; exact wt_cg (h 0 (Nat.le_refl _)).1 (h 0 (Nat.le_refl _)).2
  | k + 1, h, h2 => by
    simp only [fw]
    rw [fw_cg k (fun j hj => h j (by omega)) (fun j hj => h2 j (by omega)), wt_cg (h (k + 1) (Nat.le_refl _)).1 (h (k + 1) (Nat.le_refl _)).2, (h2 k (Nat.lt_succ_self _)).1, (h2 k (Nat.lt_succ_self _)).2]
theorem bk_cg {F G : Nat → Nat → Int32} (h : ∀ j, j < 8 → F 0 j = G 0 j ∧ F 1 j = G 1 j) (h2 : ∀ j, j < 7 → F 3 j = G 3 j ∧ F 4 j = G 4 j) : ∀ k, bk F k = bk G k
  | 0 => by simp only [bk]; exact fw_cg 7 (fun j hj => h j (by omega)) (fun j hj => h2 j (by omega))
  | k + 1 => by
    simp only [bk]
    rw [bk_cg h h2 k, fw_cg (6 - k) (fun j hj => h j (by omega)) (fun j hj => h2 j (by omega)), (h2 (6 - k) (by omega)).1, (h2 (6 - k) (by omega)).2]
theorem ht_cg {F G : Nat → Nat → Int32} (h : ∀ j, j < 8 → F 0 j = G 0 j ∧ F 1 j = G 1 j) (h2 : ∀ j, j < 7 → F 3 j = G 3 j ∧ F 4 j = G 4 j) (k : Nat) : ht F k = ht G k := bk_cg h h2 _
theorem snT_z {F : Nat → Nat → Int32} (c : (sn F 7).1 = -1000) : snT F = F 3 := by
  unfold snT
  rw [if_pos c]
theorem uR_same (F : Nat → Nat → Int32) (k : Nat) : uR F k (F k) = F := by
  funext j
  by_cases h : j = k
  · subst h; rw [uR_s]
  · rw [uR_n _ _ h]
theorem ht_sn0 {F : Nat → Nat → Int32} (c : (sn F 7).1 = -1000) (j : Nat) : ht F j = ht (uR F 3 (snT F)) j := by
  rw [snT_z c, uR_same]
theorem snT_y {F : Nat → Nat → Int32} {k : Nat} (c : ¬ (sn F 7).1 = -1000) (e : (sn F 7).1 = nI k) (hk : k < 2 ^ 31) (j : Nat) : upd (F 3) k 0 j = snT F j := by
  unfold snT
  rw [if_neg c, e, nI_clamp hk]
theorem sm_p {i : Nat} {p : Nat → Prop} [d : ∀ j, Decidable (p j)] (c : p i) : sm (fun j => b1 (p j)) i + 1 = sm (fun j => b1 (p j)) (i + 1) := by
  simp only [sm]
  congr 1
  exact (if_pos c).symm
theorem sm_z {i : Nat} {p : Nat → Prop} [d : ∀ j, Decidable (p j)] (c : ¬ p i) : sm (fun j => b1 (p j)) i + 0 = sm (fun j => b1 (p j)) (i + 1) := by
  simp only [sm]
  congr 1
  exact (if_neg c).symm

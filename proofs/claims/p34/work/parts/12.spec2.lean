/-! notes -/
def plk (S : Nat → Nat → Int32) (x y : Int32) : Nat → Nat → Nat
  | 0, k => k
  | f + 1, k => if S 7 k = x ∧ S 8 k = y then k else plk S x y f (k + 1)
/-- the place of the note of balloon x and hour y; how many there are, if there is none -/
def plc (S : Nat → Nat → Int32) (z : Nat) (x y : Int32) : Nat := plk S x y z 0
theorem plk_le (S : Nat → Nat → Int32) (x y : Int32) : ∀ f k, plk S x y f k ≤ k + f
  | 0, k => Nat.le_refl _
  | f + 1, k => by
    simp only [plk]
    by_cases h : S 7 k = x ∧ S 8 k = y
    · rw [if_pos h]; omega
    · rw [if_neg h]
      have := plk_le S x y f (k + 1)
      omega
theorem plc_le (S : Nat → Nat → Int32) (z : Nat) (x y : Int32) : plc S z x y ≤ z := by
  have := plk_le S x y z 0
  unfold plc
  omega
theorem plk_s {S : Nat → Nat → Int32} {z k : Nat} {x y : Int32} (hk : k < z) (c : ¬ (S 7 k = x ∧ S 8 k = y)) : plk S x y (z - k) k = plk S x y (z - (k + 1)) (k + 1) := by
  have e : z - k = (z - (k + 1)) + 1 := by omega
  rw [e]
  simp only [plk]
  rw [if_neg c]
theorem plk_s1 {S : Nat → Nat → Int32} {z k : Nat} {x y : Int32} (hk : k < z) (c : ¬ S 7 k = x) : plk S x y (z - k) k = plk S x y (z - (k + 1)) (k + 1) := plk_s hk fun h => c h.1
theorem plk_s2 {S : Nat → Nat → Int32} {z k : Nat} {x y : Int32} (hk : k < z) (c : ¬ S 8 k = y) : plk S x y (z - k) k = plk S x y (z - (k + 1)) (k + 1) := plk_s hk fun h => c h.2
theorem plk_f {S : Nat → Nat → Int32} {z k v : Nat} {x y : Int32} (hk : k < z) (c : S 7 k = x) (c2 : S 8 k = y) (h : plk S x y (z - k) k = v) : k = v := by
  have e : z - k = (z - (k + 1)) + 1 := by omega
  rw [e] at h
  simp only [plk] at h
  rw [if_pos ⟨c, c2⟩] at h
  exact h
theorem plk_o {S : Nat → Nat → Int32} {z k v : Nat} {x y : Int32} (hk : k ≤ z) (c : z ≤ k) (h : plk S x y (z - k) k = v) : z = v := by
  have e : z - k = 0 := by omega
  rw [e] at h
  have h2 : k = v := h
  omega
/-- the row without its first number -/
def shf (f : Nat → Int32) : Nat → Int32 := fun j => if j < 19 then f (j + 1) else f j
theorem shf_c (f : Nat → Int32) (j : Nat) (hj : j < 20) : va_cpy f f 1 0 19 j = shf f j := by
  unfold shf
  by_cases h : j < 19
  · rw [if_pos h, pk_cpy_in (Nat.zero_le _) (by omega)]
    congr 1
    omega
  · rw [if_neg h, pk_cpy_out (by omega)]
/-- a row of the notes with v written at the place p; at 20: the first is gone -/
def nwr (f : Nat → Int32) (p : Nat) (v : Int32) : Nat → Int32 := if p = 20 then upd (shf f) 19 v else upd f p v
/-- how many notes then -/
def nsz (z p : Nat) : Nat := if p < z then z else if z < 20 then z + 1 else z
theorem nwr_a {f : Nat → Int32} {p : Nat} {v : Int32} (h : p < 20) (j : Nat) : upd f p v j = nwr f p v j := by
  unfold nwr
  rw [if_neg (by omega)]
theorem nwr_b {f : Nat → Int32} {p z : Nat} {v : Int32} (h : p = z) (h2 : z < 20) (j : Nat) : upd f z v j = nwr f p v j := by
  subst h
  exact nwr_a h2 j
theorem nwr_c {f : Nat → Int32} {p z : Nat} {v : Int32} (h : p = 20) (h2 : z ≤ 20) (j : Nat) : upd (shf f) 19 v j = nwr f p v j := by
  subst h
  rfl
theorem nsz_a {S : Nat → Nat → Int32} {z p : Nat} (hz : S 12 8 = nI z) (h : p < z) : S 12 8 = nI (nsz z p) := by
  unfold nsz
  rw [if_pos h, hz]
theorem nsz_b {z p : Nat} (h : p = z) (h2 : z < 20) : nI (z + 1) = nI (nsz z p) := by
  unfold nsz
  rw [if_neg (by omega), if_pos h2]
theorem nsz_c {S : Nat → Nat → Int32} {z p : Nat} (hz : S 12 8 = nI z) (h : p = z) (h2 : 20 ≤ z) : S 12 8 = nI (nsz z p) := by
  unfold nsz
  rw [if_neg (by omega), if_neg (by omega), hz]
def ntl (S : Nat → Nat → Int32) (z r w : Nat) : Int32 := if r < z then S (7 + w) r else -1000
/-! a state: what altimeters tell, an hour -/
def tel (S : Nat → Nat → Int32) (b : Nat) : Int32 := S 6 b + S 10 b * (S 12 0 - S 11 b) / 4
def hr1 (S : Nat → Nat → Int32) : Nat → Nat → Int32 := uR S 12 (upd (S 12) 0 (S 12 0 + 1))
def hr2 (S : Nat → Nat → Int32) : Nat → Nat → Int32 := uR (uR (uR S 0 (lkg (hr1 S))) 12 (upd (upd (S 12) 0 (S 12 0 + 1)) 2 (S 12 2 + sm (lks (hr1 S)) 8))) 6 (ht (uR (hr1 S) 0 (lkg (hr1 S))))
def hourS (S : Nat → Nat → Int32) : Nat → Nat → Int32 := uR (uR (uR (uR S 0 (lkg (hr1 S))) 3 (snT (hr2 S))) 12 (upd (upd (upd (S 12) 0 (S 12 0 + 1)) 2 (S 12 2 + sm (lks (hr1 S)) 8)) 4 (S 12 4 + (if (sn (hr2 S) 7).1 = -1000 then 0 else 1)))) 6 (ht (uR (hr2 S) 3 (snT (hr2 S))))
def hrs (S : Nat → Nat → Int32) : Nat → Nat → Nat → Int32
  | 0 => S
  | i + 1 => hourS (hrs S i)
theorem ht_rows {F G : Nat → Nat → Int32} (h0 : F 0 = G 0) (h1 : F 1 = G 1) (h3 : F 3 = G 3) (h4 : F 4 = G 4) (k : Nat) : ht F k = ht G k :=
  ht_cg (fun j _ => ⟨by rw [h0], by rw [h1]⟩) (fun j _ => ⟨by rw [h3], by rw [h4]⟩) k
theorem hr2_hM (S : Nat → Nat → Int32) (j : Nat) : hr2 S 6 j = ht (hr2 S) j := by
  have e : hr2 S 6 = ht (uR (hr1 S) 0 (lkg (hr1 S))) := rfl
  rw [e]
  exact ht_rows (F := uR (hr1 S) 0 (lkg (hr1 S))) (G := hr2 S) rfl rfl rfl rfl j

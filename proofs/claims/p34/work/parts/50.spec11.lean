/-! deeds of the reference, in the class's words -/
theorem hsm_m (M : Nat → Nat → Int32) : hsm (mended M) = hsm M := by
  unfold hsm
  have e : ht (mended M) = ht M := funext fun k => ht_rows (F := mended M) (G := M) rfl rfl rfl rfl k
  rw [e]
theorem ht_m (M : Nat → Nat → Int32) : ht (mended M) = ht M := funext fun k => ht_rows (F := mended M) (G := M) rfl rfl rfl rfl k
theorem enc_n (A : Nat → Nat → Nat → Int32) {k w : Nat} (hk : k < 20) (hw : w < 3) : enc A (70 + 3 * k + w) = A 0 (7 + w) k := by
  have e : 70 + 3 * k + w = 130 * 0 + (70 + 3 * k + w) := by omega
  rw [e, enc_at A (by omega), dcR_n hw, dcI_n hw]
theorem enc_u0 (A : Nat → Nat → Nat → Int32) (M : Nat → Nat → Int32) {i : Nat} (h : i < 9) (v : Int32) : upd (enc (uA A 0 M)) i v = enc (uA A 0 (u2 M 12 i v)) := by
  have e := enc_uu A 0 M h v
  rw [show 130 * 0 + i = i by omega] at e
  exact e
theorem enc_un (A : Nat → Nat → Nat → Int32) (M : Nat → Nat → Int32) {k w : Nat} (hk : k < 20) (hw : w < 3) (v : Int32) : upd (enc (uA A 0 M)) (70 + 3 * k + w) v = enc (uA A 0 (u2 M (7 + w) k v)) := by
  have e : 70 + 3 * k + w = 130 * 0 + (70 + 3 * k + w) := by omega
  rw [e, enc_upd _ (by omega), dcR_n hw, dcI_n hw, uA_uA, uA_s]
/-- notes -/
def shM (S : Nat → Nat → Int32) : Nat → Nat → Int32 := uR (uR (uR S 7 (shf (S 7))) 8 (shf (S 8))) 9 (shf (S 9))
def ntM (S : Nat → Nat → Int32) (p : Nat) : Nat → Nat → Int32 := if p = 20 then shM S else S
def ntp (p : Nat) : Nat := if p = 20 then 19 else p
theorem ntp_lt {p y : Nat} (h : p ≤ y) (h2 : y ≤ 20) : ntp p < 20 := by unfold ntp; split <;> omega
theorem ntp_a {p : Nat} (h : ¬ p = 20) : nI p = nI (ntp p) := by unfold ntp; rw [if_neg h]
theorem ntp_b {p : Nat} (h : p = 20) : nI (p - 1) = nI (ntp p) := by subst h; rfl
theorem nsz_1 {p y : Nat} (h : p ≤ y) (h2 : y ≤ 20) (c : ntp p < y) : nI y = nI (nsz y p) := by
  unfold ntp at c
  unfold nsz
  by_cases e : p = 20
  · rw [if_neg (by omega), if_neg (by omega)]
  · rw [if_neg e] at c; rw [if_pos c]
theorem nsz_2 {p y : Nat} (h : p ≤ y) (h2 : y ≤ 20) (c : y ≤ ntp p) : nI (ntp p + 1) = nI (nsz y p) := by
  unfold ntp at c ⊢
  unfold nsz
  by_cases e : p = 20
  · rw [if_pos e] at c; omega
  · rw [if_neg e] at c ⊢
    rw [if_neg (by omega), if_pos (by omega), show p = y by omega]
def shR (B : Nat → Nat → Nat → Int32) (i : Nat) : Nat → Int32 := fun j => if 70 ≤ j ∧ j < 70 + i then enc B (j + 3) else enc B j
theorem shR_0 (B : Nat → Nat → Nat → Int32) (j : Nat) : enc B j = shR B 0 j := (if_neg (by omega)).symm
theorem shR_s {B : Nat → Nat → Nat → Int32} {i : Nat} (j : Nat) : upd (shR B i) (70 + i) (shR B i (70 + i + 3)) j = shR B (i + 1) j := by
  have e : shR B i (70 + i + 3) = enc B (70 + i + 3) := if_neg (by omega)
  rw [e]
  by_cases hj : j = 70 + i
  · subst hj
    rw [upd_s]
    exact (if_pos (by omega)).symm
  · rw [upd_n _ _ hj]
    unfold shR
    by_cases c : 70 ≤ j ∧ j < 70 + i
    · rw [if_pos c, if_pos (by omega)]
    · rw [if_neg c, if_neg (by omega)]
theorem shM_n (S : Nat → Nat → Int32) {w i : Nat} (hw : w < 3) : shM S (7 + w) i = shf (S (7 + w)) i := by
  rcases (show w = 0 ∨ w = 1 ∨ w = 2 by omega) with rfl | rfl | rfl <;> rfl
theorem shR_o {B : Nat → Nat → Nat → Int32} {i j : Nat} (hi : i ≤ 57) (h : 57 ≤ i) : shR B i j = enc (uA B 0 (shM (B 0))) j := by
  have hi : i = 57 := by omega
  subst hi
  by_cases c : 70 ≤ j ∧ j < 130
  · obtain ⟨k, w, hk, hw, rfl⟩ : ∃ k w, k < 20 ∧ w < 3 ∧ j = 70 + 3 * k + w := ⟨(j - 70) / 3, (j - 70) % 3, by omega, Nat.mod_lt _ (by decide), by omega⟩
    rw [enc_n _ hk hw, uA_s, shM_n _ hw]
    unfold shR shf
    by_cases d : k < 19
    · rw [if_pos (by omega), if_pos d, show 70 + 3 * k + w + 3 = 70 + 3 * (k + 1) + w by omega, enc_n _ (by omega) hw]
    · rw [if_neg (by omega), if_neg d, enc_n _ hk hw]
  · unfold shR
    rw [if_neg (by omega)]
    unfold enc uA
    by_cases d : j / 130 = 0
    · have hj : j % 130 < 70 := by omega
      have hr : ∀ m, m < 70 → dcR m ≠ 7 ∧ dcR m ≠ 8 ∧ dcR m ≠ 9 := by decide +kernel
      obtain ⟨h7, h8, h9⟩ := hr _ hj
      rw [if_pos d, d]
      unfold shM
      rw [uR_n _ _ h9, uR_n _ _ h8, uR_n _ _ h7]
    · rw [if_neg d]
theorem ntM_a {B : Nat → Nat → Nat → Int32} {p : Nat} (h : ¬ p = 20) (j : Nat) : enc B j = enc (uA B 0 (ntM (B 0) p)) j := by
  unfold ntM
  rw [if_neg h, uA_id]
theorem ntM_b {B : Nat → Nat → Nat → Int32} {p i : Nat} (h : p = 20) (hi : i ≤ 57) (h2 : 57 ≤ i) (j : Nat) : shR B i j = enc (uA B 0 (ntM (B 0) p)) j := by
  unfold ntM
  rw [if_pos h]
  exact shR_o hi h2
theorem ntM_12 (S : Nat → Nat → Int32) (p : Nat) : ntM S p 12 = S 12 := by
  unfold ntM
  by_cases h : p = 20
  · rw [if_pos h]; rfl
  · rw [if_neg h]
theorem ntM_h (S : Nat → Nat → Int32) (p q : Nat) (v w : Int32) : (u2 (u2 (ntM S p) 12 8 v) 7 q w) 12 0 = S 12 0 := by
  show upd (ntM S p 12) 8 v 0 = S 12 0
  rw [ntM_12, upd_n _ _ (by decide)]
theorem ntM_nwr (S : Nat → Nat → Int32) {p r : Nat} (hr : r = 7 ∨ r = 8 ∨ r = 9) (v : Int32) : upd (ntM S p r) (ntp p) v = nwr (S r) p v := by
  unfold ntM ntp nwr
  by_cases h : p = 20
  · rw [if_pos h, if_pos h, if_pos h]
    rcases hr with rfl | rfl | rfl <;> rfl
  · rw [if_neg h, if_neg h, if_neg h]
theorem ntF (S : Nat → Nat → Int32) {y b k : Nat} (e : k = plc S y (nI b) (S 12 0)) : u2 (u2 (u2 (u2 (ntM S k) 12 8 (nI (nsz y k))) 7 (ntp k) (nI b)) 8 (ntp k) (S 12 0)) 9 (ntp k) (tel S b) = notS S y b := by
  unfold notS
  rw [← e]
  funext r
  unfold u2
  by_cases h9 : r = 9
  · subst h9
    show upd (ntM S k 9) (ntp k) (tel S b) = nwr (S 9) k (tel S b)
    exact ntM_nwr S (by omega) _
  by_cases h8 : r = 8
  · subst h8
    show upd (ntM S k 8) (ntp k) (S 12 0) = nwr (S 8) k (S 12 0)
    exact ntM_nwr S (by omega) _
  by_cases h7 : r = 7
  · subst h7
    show upd (ntM S k 7) (ntp k) (nI b) = nwr (S 7) k (nI b)
    exact ntM_nwr S (by omega) _
  by_cases h12 : r = 12
  · subst h12
    show upd (ntM S k 12) 8 (nI (nsz y k)) = upd (S 12) 8 (nI (nsz y k))
    rw [ntM_12]
  rw [uR_n _ _ h9, uR_n _ _ h8, uR_n _ _ h7, uR_n _ _ h12, uR_n _ _ h12, uR_n _ _ h9, uR_n _ _ h8, uR_n _ _ h7]
  unfold ntM shM
  by_cases c : k = 20
  · rw [if_pos c, uR_n _ _ h9, uR_n _ _ h8, uR_n _ _ h7]
  · rw [if_neg c]
/-- the deeds' ends -/
theorem enc_me (A : Nat → Nat → Nat → Int32) (M : Nat → Nat → Int32) (j : Nat) : enc (uA A 0 M) j = enc (uA A 0 (mended M)) j := (enc_m A 0 M (ht M) j).symm
theorem ven_e (S : Nat → Nat → Int32) (b : Nat) (x : Int32) : u2 (u2 S 0 b (S 0 b + -x)) 12 3 ((u2 S 0 b (S 0 b + -x)) 12 3 + x) = venS S b x := by
  rw [i_neg]
  rfl
theorem dro_e (S : Nat → Nat → Int32) (b : Nat) : u2 (u2 S 1 b (S 1 b + (-1))) 12 5 ((u2 S 1 b (S 1 b + (-1))) 12 5 + 1) = droS S b := by
  have e : S 1 b + (-1) = S 1 b - 1 := (Int32.sub_eq_add_neg _ _).symm
  rw [e]
  rfl
theorem wn0_z {F : Nat → Nat → Int32} {b : Nat} {x : Int32} (h : wn0 F b x ≤ 0) : wn0 F b x = 0 := by
  unfold wn0 at h ⊢
  split at h
  · exact absurd h (by decide)
  · rename_i c
    rw [if_neg c]
    split at h
    · exact absurd h (by decide)
    · rename_i d
      rw [if_neg d]
theorem wn1_z {F : Nat → Nat → Int32} {b : Nat} {x : Int32} (h : wn1 F b x ≤ 0) : wn1 F b x = 0 := by
  unfold wn1 at h ⊢
  split at h
  · exact absurd h (by decide)
  · rename_i c
    rw [if_neg c]
theorem wn2_z {F : Nat → Nat → Int32} {b : Nat} (h : wn2 F b ≤ 0) : wn2 F b = 0 := by
  unfold wn2 at h ⊢
  split at h
  · exact absurd h (by decide)
  · rename_i c
    rw [if_neg c]
theorem wn3_z {F : Nat → Nat → Int32} {b : Nat} (h : wn3 F b ≤ 0) : wn3 F b = 0 := by
  unfold wn3 at h ⊢
  split at h
  · rename_i c
    rw [if_pos c]
    split at h
    · exact absurd h (by decide)
    · rename_i d
      rw [if_neg d]
  · exact absurd h (by decide)
theorem wnt_z {F : Nat → Nat → Int32} {r : Nat} {x : Int32} (h : wnt F r x ≤ 0) : wnt F r x = 0 := by
  unfold wnt at h ⊢
  by_cases c : F 3 r = 0
  · rw [if_pos c] at h ⊢
    by_cases d : x < (if 0 ≤ F 6 r - F 6 (r + 1) then F 6 r - F 6 (r + 1) else 0 - (F 6 r - F 6 (r + 1)))
    · rw [if_pos d] at h; exact absurd h (by decide)
    · rw [if_neg d]
  · rw [if_neg c] at h; exact absurd h (by decide)
theorem wn5_z {F : Nat → Nat → Int32} {r : Nat} (h : wn5 F r ≤ 0) : wn5 F r = 0 := by
  unfold wn5 at h ⊢
  split at h
  · exact absurd h (by decide)
  · rename_i c
    rw [if_neg c]
theorem nz_le {x : Int32} (h : ¬ x ≤ 0) : ¬ x = 0 := fun e => h (by rw [e]; decide)
theorem enc_b0 (A : Nat → Nat → Nat → Int32) {k w : Nat} (hk : k < 8) (hw : w < 5) : enc A (9 + 5 * k + w) = A 0 (brw w) k := by
  have e := enc_b A (a := 0) hk hw
  rw [show 130 * 0 + 9 + 5 * k + w = 9 + 5 * k + w by omega] at e
  exact e
theorem enc_q0 (A : Nat → Nat → Nat → Int32) {k w : Nat} (hk : k < 7) (hw : w < 3) : enc A (49 + 3 * k + w) = A 0 (3 + w) k := by
  have e := enc_r A (a := 0) hk hw
  rw [show 130 * 0 + 49 + 3 * k + w = 49 + 3 * k + w by omega] at e
  exact e
theorem enc_ub0 (A : Nat → Nat → Nat → Int32) (M : Nat → Nat → Int32) {k w : Nat} (hk : k < 8) (hw : w < 5) (v : Int32) : upd (enc (uA A 0 M)) (9 + 5 * k + w) v = enc (uA A 0 (u2 M (brw w) k v)) := by
  have e := enc_ub (uA A 0 M) (a := 0) hk hw v
  rw [show 130 * 0 + 9 + 5 * k + w = 9 + 5 * k + w by omega, uA_uA, uA_s] at e
  exact e
theorem enc_uq0 (A : Nat → Nat → Nat → Int32) (M : Nat → Nat → Int32) {k w : Nat} (hk : k < 7) (hw : w < 3) (v : Int32) : upd (enc (uA A 0 M)) (49 + 3 * k + w) v = enc (uA A 0 (u2 M (3 + w) k v)) := by
  have e := enc_ur (uA A 0 M) (a := 0) hk hw v
  rw [show 130 * 0 + 49 + 3 * k + w = 49 + 3 * k + w by omega, uA_uA, uA_s] at e
  exact e
theorem sav_id (B : Nat → Nat → Nat → Int32) (z : Nat) : uA (savB B z) 0 (B 0) = savB B z := by
  have h := uA_id (savB B z) 0
  rw [sav_0] at h
  exact h
theorem enc_sav (B : Nat → Nat → Nat → Int32) (z : Nat) {q : Nat} (h : q < 130) : enc (savB B z) q = enc B q := by
  unfold enc
  rw [show q / 130 = 0 by omega, sav_0]
theorem sav_ub (B : Nat → Nat → Nat → Int32) (z : Nat) {k w : Nat} (hk : k < 8) (hw : w < 5) (v : Int32) : upd (enc (savB B z)) (9 + 5 * k + w) v = enc (uA (savB B z) 0 (u2 (B 0) (brw w) k v)) := by
  have h := enc_ub0 (savB B z) (B 0) hk hw v
  rw [sav_id] at h
  exact h
theorem sav_uq (B : Nat → Nat → Nat → Int32) (z : Nat) {k w : Nat} (hk : k < 7) (hw : w < 3) (v : Int32) : upd (enc (savB B z)) (49 + 3 * k + w) v = enc (uA (savB B z) 0 (u2 (B 0) (3 + w) k v)) := by
  have h := enc_uq0 (savB B z) (B 0) hk hw v
  rw [sav_id] at h
  exact h
theorem amt_of {x : Int32} (h : inR x 1 99) : ∃ n : Nat, 1 ≤ n ∧ n ≤ 99 ∧ x = nI n := by
  have h1 := Int32.le_iff_toInt_le.mp (Int32.not_lt.mp h.1)
  have e1 : (1 : Int32).toInt = 1 := rfl
  obtain ⟨j, hj, e⟩ := nI_of2 (x := x) (M := 99) (n := 99) (by decide) (fun c => by have := Int32.lt_iff_toInt_lt.mp c; have e0 : (0 : Int32).toInt = 0 := rfl; omega) (Int32.not_lt.mp h.2)
  refine ⟨j, ?_, hj, e⟩
  rw [e, nI_toInt (by omega)] at h1
  omega
theorem inR_int {x lo hi : Int32} (h : inR x lo hi) : lo.toInt ≤ x.toInt ∧ x.toInt ≤ hi.toInt := ⟨Int32.le_iff_toInt_le.mp (Int32.not_lt.mp h.1), Int32.le_iff_toInt_le.mp (Int32.not_lt.mp h.2)⟩
theorem cut_e (B : Nat → Nat → Nat → Int32) {r : Nat} (hr : r < 7) (j : Nat) : upd (enc B) (49 + 3 * r) 0 j = enc (uA B 0 (mended (cutS (B 0) r))) j := by
  have h := enc_r0 B (k := r) (w := 0) hr (by decide) 0 j
  rw [Nat.add_zero] at h
  rw [h, ← enc_me]
  rfl
theorem cut01 {S : Nat → Nat → Int32} {r : Nat} (h : ∀ q, q < 7 → S 3 q = 0 ∨ S 3 q = 1) : ∀ q, q < 7 → mended (cutS S r) 3 q = 0 ∨ mended (cutS S r) 3 q = 1 := fun q hq => upd01 (f := S 3) (r := r) (v := 0) h (Or.inl rfl) q hq
theorem tie01 {S : Nat → Nat → Int32} {r : Nat} {x : Int32} (h : ∀ q, q < 7 → S 3 q = 0 ∨ S 3 q = 1) : ∀ q, q < 7 → mended (tieS S r x) 3 q = 0 ∨ mended (tieS S r x) 3 q = 1 := fun q hq => upd01 (f := S 3) (r := r) (v := 1) h (Or.inr rfl) q hq
theorem wn3_1 {F : Nat → Nat → Int32} {b : Nat} (c : F 1 b = 10) : 5 = wn3 F b := by
  unfold wn3
  rw [c]
  exact (if_neg (by decide)).symm
theorem wn3_2 {F : Nat → Nat → Int32} {b : Nat} (h : (F 1 b).toInt ≤ 10) (h6 : F 6 = ht F) (c : ¬ F 1 b = 10) (d : ¬ ht F b ≤ 0) : 6 = wn3 F b := by
  rw [← wn3_R h, if_neg c, h6, if_pos (lt_yes d)]
theorem wn3_3 {F : Nat → Nat → Int32} {b : Nat} (h : (F 1 b).toInt ≤ 10) (h6 : F 6 = ht F) (c : ¬ F 1 b = 10) (d : ht F b ≤ 0) : 0 = wn3 F b := by
  rw [← wn3_R h, if_neg c, h6, if_neg (lt_no d)]
theorem nz1 : ¬ (1 : Int32) = 0 := by decide
theorem nz2 : ¬ (2 : Int32) = 0 := by decide
theorem nz3 : ¬ (3 : Int32) = 0 := by decide

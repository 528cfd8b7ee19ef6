/-! both sides in one telling: codes, bounds, an hour, saving -/
abbrev inR (x lo hi : Int32) : Prop := ¬ x < lo ∧ ¬ hi < x
abbrev isB (x : Int32) : Prop := inR x 0 7
abbrev isR (x : Int32) : Prop := inR x 0 6
def k1 (p : Prop) [Decidable p] : Int32 := if p then 0 else 1
def k2 (p q : Prop) [Decidable p] [Decidable q] : Int32 := if p then (if q then 0 else 2) else 1
def k3 (p q r : Prop) [Decidable p] [Decidable q] [Decidable r] : Int32 := if p then (if q then (if r then 0 else 3) else 2) else 1
theorem k1_0 {p : Prop} [Decidable p] (h : p) : k1 p = 0 := if_pos h
theorem k1_1 {p : Prop} [Decidable p] (h : ¬ p) : k1 p = 1 := if_neg h
theorem k2_0 {p q : Prop} [Decidable p] [Decidable q] (h : p) (h2 : q) : k2 p q = 0 := (if_pos h).trans (if_pos h2)
theorem k2_1 {p q : Prop} [Decidable p] [Decidable q] (h : ¬ p) : k2 p q = 1 := if_neg h
theorem k2_2 {p q : Prop} [Decidable p] [Decidable q] (h : p) (h2 : ¬ q) : k2 p q = 2 := (if_pos h).trans (if_neg h2)
theorem k3_0 {p q r : Prop} [Decidable p] [Decidable q] [Decidable r] (h : p) (h2 : q) (h3 : r) : k3 p q r = 0 := (if_pos h).trans ((if_pos h2).trans (if_pos h3))
theorem k3_1 {p q r : Prop} [Decidable p] [Decidable q] [Decidable r] (h : ¬ p) : k3 p q r = 1 := if_neg h
theorem k3_2 {p q r : Prop} [Decidable p] [Decidable q] [Decidable r] (h : p) (h2 : ¬ q) : k3 p q r = 2 := (if_pos h).trans (if_neg h2)
theorem k3_3 {p q r : Prop} [Decidable p] [Decidable q] [Decidable r] (h : p) (h2 : q) (h3 : ¬ r) : k3 p q r = 3 := (if_pos h).trans ((if_pos h2).trans (if_neg h3))
/-- the code k is K; where it is 0, state and answer are the new ones; else the state is the old one -/
def Res {σ ρ : Type} (K k : Int32) (s0 sok s : σ) (rok r : ρ) : Prop := k = K ∧ (K = 0 → s = sok ∧ r = rok) ∧ (¬ K = 0 → s = s0)
theorem Res_ok {σ ρ : Type} {K k : Int32} {s0 sok s : σ} {rok r : ρ} (hK : K = 0) (hk : k = 0) (hs : s = sok) (hr : r = rok) : Res K k s0 sok s rok r := ⟨by rw [hK, hk], fun _ => ⟨hs, hr⟩, fun h => absurd hK h⟩
theorem Res_bad {σ ρ : Type} {K k : Int32} {s0 sok s : σ} {rok r : ρ} (hK : K = k) (hk : ¬ k = 0) (hs : s = s0) : Res K k s0 sok s rok r := ⟨hK.symm, fun h => absurd (hK.symm.trans h) hk, fun _ => hs⟩
theorem bal_of {x : Int32} (h : isB x) : ∃ b : Nat, b < 8 ∧ x = nI b := by
  obtain ⟨j, hj, e⟩ := nI_of2 (x := x) (M := 7) (n := 7) (by decide) h.1 (Int32.not_lt.mp h.2)
  exact ⟨j, by omega, e⟩
theorem rib_of {x : Int32} (h : isR x) : ∃ b : Nat, b < 7 ∧ x = nI b := by
  obtain ⟨j, hj, e⟩ := nI_of2 (x := x) (M := 6) (n := 6) (by decide) h.1 (Int32.not_lt.mp h.2)
  exact ⟨j, by omega, e⟩
theorem num_of {x hi : Int32} {n : Nat} (hM : hi.toInt = n) (h : inR x 0 hi) : ∃ b : Nat, b ≤ n ∧ x = nI b := nI_of2 hM h.1 (Int32.not_lt.mp h.2)
theorem isB_nI {b : Nat} (h : b < 8) : isB (nI b) := ⟨nI_pos (by omega), by
  intro c
  have h7 : (7 : Int32) = nI 7 := rfl
  rw [h7] at c
  exact absurd ((nI_ltI (by decide) (by omega)).mp c) (by omega)⟩
theorem isR_nI {b : Nat} (h : b < 7) : isR (nI b) := ⟨nI_pos (by omega), by
  intro c
  have h7 : (6 : Int32) = nI 6 := rfl
  rw [h7] at c
  exact absurd ((nI_ltI (by decide) (by omega)).mp c) (by omega)⟩
theorem inR_nI {b n : Nat} (hn : n < 2147483648) (h : b ≤ n) : inR (nI b) 0 (nI n) := ⟨nI_pos (by omega), fun c => absurd ((nI_ltI (by omega) (by omega)).mp c) (by omega)⟩
/-- the bounds of the document -/
def GB (F : Nat → Nat → Int32) : Prop := (∀ j, j < 8 → (0 ≤ (F 0 j).toInt ∧ (F 0 j).toInt ≤ 200) ∧ (0 ≤ (F 1 j).toInt ∧ (F 1 j).toInt ≤ 10) ∧ (0 ≤ (F 2 j).toInt ∧ (F 2 j).toInt ≤ 9)) ∧ ∀ r, r < 7 → (F 3 r = 0 ∨ F 3 r = 1) ∧ (0 ≤ (F 4 r).toInt ∧ (F 4 r).toInt ≤ 300) ∧ (0 ≤ (F 5 r).toInt ∧ (F 5 r).toInt ≤ 500)
theorem GB_FR {F : Nat → Nat → Int32} (h : GB F) : FR F := fun j hj => ⟨(h.1 j hj).1.1, (h.1 j hj).1.2, (h.1 j hj).2.2.1, (h.1 j hj).2.2.2⟩
theorem GB_T {F : Nat → Nat → Int32} (h : GB F) : ∀ r, r < 7 → F 3 r = 0 ∨ F 3 r = 1 := fun r hr => (h.2 r hr).1
theorem wt_in (F : Nat → Nat → Int32) (b : Nat) : 0 ≤ (wt F b).toInt ∧ (wt F b).toInt ≤ 999 := by
  have e0 : (0 : Int32).toInt = 0 := rfl
  have e9 : (999 : Int32).toInt = 999 := rfl
  unfold wt
  rw [mx_toInt, mn_toInt, e0, e9]
  split
  · split <;> omega
  · omega
theorem fw_in {F : Nat → Nat → Int32} (h : GB F) : ∀ k, k < 8 → 0 ≤ (fw F k).toInt ∧ (fw F k).toInt ≤ 999
  | 0, _ => wt_in F 0
  | k + 1, hk => by
    have h1 := fw_in h k (by omega)
    have h2 := (h.2 k (by omega)).2.1
    have h3 := wt_in F (k + 1)
    simp only [fw]
    by_cases c : F 3 k = 0
    · rw [if_pos c]; exact h3
    · rw [if_neg c, mn_toInt, i_add (by omega) (by omega) (by omega) (by omega)]
      split <;> omega
theorem bk_in {F : Nat → Nat → Int32} (h : GB F) : ∀ k, k < 8 → 0 ≤ (bk F k).toInt ∧ (bk F k).toInt ≤ 999
  | 0, _ => fw_in h 7 (by omega)
  | k + 1, hk => by
    have h1 := bk_in h k (by omega)
    have h2 := (h.2 (6 - k) (by omega)).2.1
    have h3 := fw_in h (6 - k) (by omega)
    simp only [bk]
    by_cases c : F 3 (6 - k) = 0
    · rw [if_pos c]; exact h3
    · rw [if_neg c, mn_toInt, i_add (by omega) (by omega) (by omega) (by omega)]
      split <;> omega
theorem ht_in {F : Nat → Nat → Int32} (h : GB F) {k : Nat} (hk : k < 8) : 0 ≤ (ht F k).toInt ∧ (ht F k).toInt ≤ 999 := bk_in h (7 - k) (by omega)
theorem upr_0 {F : Nat → Nat → Int32} {r : Nat} (h : upr F r = r) : F 4 r = 0 ∨ (F 6 (r + 1)).toInt ≤ (F 6 r).toInt := by
  by_cases c : F 4 r = 0
  · exact Or.inl c
  · unfold upr at h
    rw [if_neg c] at h
    by_cases d : F 6 r < F 6 (r + 1)
    · rw [if_pos d] at h; omega
    · exact Or.inr (Int32.le_iff_toInt_le.mp (Int32.not_lt.mp d))
theorem upr_1 {F : Nat → Nat → Int32} {r : Nat} (h : upr F r = r + 1) : F 4 r = 0 ∨ (F 6 r).toInt < (F 6 (r + 1)).toInt := by
  by_cases c : F 4 r = 0
  · exact Or.inl c
  · unfold upr at h
    rw [if_neg c] at h
    by_cases d : F 6 r < F 6 (r + 1)
    · exact Or.inr (Int32.lt_iff_toInt_lt.mp d)
    · rw [if_neg d] at h; omega
theorem i_z {x : Int32} (h : x.toInt = 0) : x = 0 := Int32.toInt_inj.mp (by rw [h]; rfl)
theorem upR_C {F : Nat → Nat → Int32} {h : Nat → Int32} {r : Nat} (e0 : h r = F 6 r) (e1 : h (r + 1) = F 6 (r + 1)) (b0 : 0 ≤ (F 6 r).toInt ∧ (F 6 r).toInt ≤ 999) (b1 : 0 ≤ (F 6 (r + 1)).toInt ∧ (F 6 (r + 1)).toInt ≤ 999) : upR F h r = upr F r := by
  unfold upR upr
  rw [e0, e1]
  by_cases c : F 4 r = 0
  · rw [if_pos c, if_pos c]
    by_cases d : wt F r < wt F (r + 1)
    · rw [if_pos d, if_neg (Int32.not_le.mpr d)]
    · rw [if_neg d, if_pos (Int32.not_lt.mp d)]
  · rw [if_neg c, if_neg c]
    have e : (F 6 r - F 6 (r + 1)).toInt = (F 6 r).toInt - (F 6 (r + 1)).toInt := i_sub (by omega) (by omega) (by omega) (by omega)
    have z : (0 : Int32).toInt = 0 := rfl
    by_cases d : F 6 r < F 6 (r + 1)
    · have d2 := Int32.lt_iff_toInt_lt.mp d
      rw [if_pos d, if_neg (fun q => by have := Int32.le_iff_toInt_le.mp q; omega)]
    · have d2 := Int32.le_iff_toInt_le.mp (Int32.not_lt.mp d)
      rw [if_neg d, if_pos (Int32.le_iff_toInt_le.mpr (by omega))]
theorem plR_C {F : Nat → Nat → Int32} {h : Nat → Int32} {r : Nat} (e0 : h r = F 6 r) (e1 : h (r + 1) = F 6 (r + 1)) (b0 : 0 ≤ (F 6 r).toInt ∧ (F 6 r).toInt ≤ 999) (b1 : 0 ≤ (F 6 (r + 1)).toInt ∧ (F 6 (r + 1)).toInt ≤ 999) (bL : 0 ≤ (F 4 r).toInt ∧ (F 4 r).toInt ≤ 300) : plR F h r = pulC F r := by
  have hu := upR_C e0 e1 b0 b1
  unfold plR pulC
  rw [hu]
  by_cases c3 : F 3 r = 0
  · rw [if_pos c3, if_pos c3]
  · rw [if_neg c3, if_neg c3]
    have ea : (F 6 r - F 6 (r + 1)).toInt = (F 6 r).toInt - (F 6 (r + 1)).toInt := i_sub (by omega) (by omega) (by omega) (by omega)
    have eb : (F 6 (r + 1) - F 6 r).toInt = (F 6 (r + 1)).toInt - (F 6 r).toInt := i_sub (by omega) (by omega) (by omega) (by omega)
    have z : (0 : Int32).toInt = 0 := rfl
    have en : (0 - F 4 r).toInt = 0 - (F 4 r).toInt := by rw [i_sub (by omega) (by omega) (by omega) (by omega), z]
    rcases upr_in F r with hq | hq
    · have hz := upr_0 hq
      rw [hq, if_pos rfl, e0, e1]
      have key : (F 6 r - F 6 (r + 1) = F 4 r ∨ F 6 r - F 6 (r + 1) = 0 - F 4 r) ↔ F 6 r - F 6 (r + 1) = F 4 r := by
        refine ⟨fun k => k.elim id (fun k => ?_), Or.inl⟩
        have k2 := congrArg Int32.toInt k
        rcases hz with hz | hz
        · rw [hz] at k ⊢; rw [k]; rfl
        · exact Int32.toInt_inj.mp (by omega)
      by_cases d : F 6 r - F 6 (r + 1) = F 4 r
      · rw [if_pos d, if_pos (Or.inl d)]
      · rw [if_neg d, if_neg (fun k => d (key.mp k))]
    · have hz := upr_1 hq
      rw [hq, if_neg (show ¬ r + 1 = r by omega), e0, e1]
      have key : (F 6 r - F 6 (r + 1) = F 4 r ∨ F 6 r - F 6 (r + 1) = 0 - F 4 r) ↔ F 6 (r + 1) - F 6 r = F 4 r := by
        constructor
        · intro k
          have hz2 : (F 4 r).toInt = 0 ∨ (F 6 r).toInt < (F 6 (r + 1)).toInt := hz.imp (fun q => by rw [q]; rfl) id
          rcases k with k | k
          · have k2 := congrArg Int32.toInt k
            exact Int32.toInt_inj.mp (by omega)
          · have k2 := congrArg Int32.toInt k
            exact Int32.toInt_inj.mp (by omega)
        · intro k
          have k2 := congrArg Int32.toInt k
          exact Or.inr (Int32.toInt_inj.mp (by omega))
      by_cases d : F 6 (r + 1) - F 6 r = F 4 r
      · rw [if_pos d, if_pos (key.mpr d)]
      · rw [if_neg d, if_neg (fun k => d (key.mp k))]
/-- alike in rows 0 to 5, as far as balloons and ribbons go -/
def A5 (F G : Nat → Nat → Int32) : Prop := (∀ j, j < 8 → F 0 j = G 0 j ∧ F 1 j = G 1 j ∧ F 2 j = G 2 j) ∧ ∀ r, r < 7 → F 3 r = G 3 r ∧ F 4 r = G 4 r ∧ F 5 r = G 5 r
theorem A5_rf (F : Nat → Nat → Int32) : A5 F F := ⟨fun _ _ => ⟨rfl, rfl, rfl⟩, fun _ _ => ⟨rfl, rfl, rfl⟩⟩
theorem A5_ht {F G : Nat → Nat → Int32} (h : A5 F G) (k : Nat) : ht F k = ht G k := ht_cg (fun j hj => ⟨(h.1 j hj).1, (h.1 j hj).2.1⟩) (fun r hr => ⟨(h.2 r hr).1, (h.2 r hr).2.1⟩) k
theorem A5_wt {F G : Nat → Nat → Int32} (h : A5 F G) {b : Nat} (hb : b < 8) : wt F b = wt G b := wt_cg (h.1 b hb).1 (h.1 b hb).2.1
theorem plR_cg {F G : Nat → Nat → Int32} (h : A5 F G) {f g : Nat → Int32} (hf : ∀ j, j < 8 → f j = g j) {r : Nat} (hr : r < 7) : plR F f r = plR G g r := by
  have e3 := (h.2 r hr).1
  have e4 := (h.2 r hr).2.1
  have w0 := A5_wt h (b := r) (by omega)
  have w1 := A5_wt h (b := r + 1) (by omega)
  have f0 := hf r (by omega)
  have f1 := hf (r + 1) (by omega)
  have hu : upR F f r = upR G g r := by
    unfold upR
    rw [e4, w0, w1, f0, f1]
  have hu2 : upR G g r = r ∨ upR G g r = r + 1 := by
    unfold upR
    by_cases c : G 4 r = 0
    · rw [if_pos c]; by_cases d : wt G (r + 1) ≤ wt G r
      · rw [if_pos d]; exact Or.inl rfl
      · rw [if_neg d]; exact Or.inr rfl
    · rw [if_neg c]; by_cases d : 0 ≤ g r - g (r + 1)
      · rw [if_pos d]; exact Or.inl rfl
      · rw [if_neg d]; exact Or.inr rfl
  unfold plR
  rw [hu, e3, e4, f0, f1]
  rcases hu2 with q | q
  · rw [q, w0, f0]
  · rw [q, w1, f1]
theorem snR_C {F G : Nat → Nat → Int32} (h : A5 F G) (hG : GB G) {f : Nat → Int32} (hf : ∀ j, j < 8 → f j = G 6 j) (hb : ∀ j, j < 8 → 0 ≤ (G 6 j).toInt ∧ (G 6 j).toInt ≤ 999) : ∀ n, n ≤ 7 → snR F f n = sn G n
  | 0, _ => rfl
  | n + 1, hn => by
    have e : plR F f n = pulC G n := (plR_cg h hf (by omega)).trans (plR_C rfl rfl (hb n (by omega)) (hb (n + 1) (by omega)) (hG.2 n (by omega)).2.1)
    simp only [snR, sn]
    rw [e, (h.2 n (by omega)).2.2, snR_C h hG hf hb n (by omega)]
    by_cases c : G 5 n < pulC G n ∧ (sn G n).2 < pulC G n
    · rw [if_pos c, if_pos ⟨Int32.not_le.mpr c.1, Int32.not_le.mpr c.2⟩]
    · rw [if_neg c, if_neg (fun z => c ⟨lt_yes z.1, lt_yes z.2⟩)]
theorem mn_comm (x y : Int32) : mn x y = mn y x := Int32.toInt_inj.mp (by
  rw [mn_toInt, mn_toInt]
  split <;> split <;> omega)
theorem enc_s (A : Nat → Nat → Nat → Int32) {a i : Nat} (h : i < 9) : enc A (130 * a + i) = A a 12 i := by
  rw [enc_at A (by omega), dcR_s h, dcI_s h]
theorem enc_sv (A : Nat → Nat → Nat → Int32) (a : Nat) (M : Nat → Nat → Int32) {i : Nat} (h : i < 9) : enc (uA A a M) (130 * a + i) = M 12 i := by
  rw [enc_s _ h, uA_s]
theorem enc_uu (A : Nat → Nat → Nat → Int32) (a : Nat) (M : Nat → Nat → Int32) {i : Nat} (h : i < 9) (v : Int32) : upd (enc (uA A a M)) (130 * a + i) v = enc (uA A a (u2 M 12 i v)) := by
  rw [enc_us _ h, uA_uA, uA_s]
theorem enc_ur0 (A : Nat → Nat → Nat → Int32) (a : Nat) (M : Nat → Nat → Int32) {k : Nat} (hk : k < 7) (v : Int32) : upd (enc (uA A a M)) (130 * a + 49 + 3 * k) v = enc (uA A a (u2 M 3 k v)) := by
  have e := enc_ur (uA A a M) (a := a) (w := 0) hk (by decide) v
  rw [uA_uA, uA_s] at e
  exact e
/-- where a number of an area lies -/
def inb (r i : Nat) : Prop := r ≠ 6 ∧ ((r < 3 ∨ r = 10 ∨ r = 11) ∧ i < 8 ∨ (3 ≤ r ∧ r < 6) ∧ i < 7 ∨ (7 ≤ r ∧ r < 10) ∧ i < 20 ∨ r = 12 ∧ i < 9)
theorem dc_inb : ∀ m, m < 130 → (dcR m ≠ 6 ∧ ((dcR m < 3 ∨ dcR m = 10 ∨ dcR m = 11) ∧ dcI m < 8 ∨ (3 ≤ dcR m ∧ dcR m < 6) ∧ dcI m < 7 ∨ (7 ≤ dcR m ∧ dcR m < 10) ∧ dcI m < 20 ∨ dcR m = 12 ∧ dcI m < 9)) := by decide +kernel
theorem enc_cg (A : Nat → Nat → Nat → Int32) (a : Nat) {M N : Nat → Nat → Int32} (h : ∀ r i, inb r i → M r i = N r i) (j : Nat) : enc (uA A a M) j = enc (uA A a N) j := by
  have hi : j % 130 < 130 := Nat.mod_lt _ (by decide)
  unfold enc uA
  by_cases c : j / 130 = a
  · rw [if_pos c, if_pos c]
    exact h _ _ (dc_inb _ hi)
  · rw [if_neg c, if_neg c]
theorem enc_m (A : Nat → Nat → Nat → Int32) (a : Nat) (M : Nat → Nat → Int32) (f : Nat → Int32) (j : Nat) : enc (uA A a (uR M 6 f)) j = enc (uA A a M) j :=
  enc_cg A a (fun r i h => by rw [uR_n _ _ h.1]) j
/-! an hour of the reference -/
def hrw (F : Nat → Nat → Int32) (i : Nat) : Nat → Nat → Int32 := uR (uR F 0 (lkw F i)) 12 (upd (F 12) 2 (F 12 2 + sm (lks F) i))
def hrv (F : Nat → Nat → Int32) (i : Nat) : Nat → Nat → Int32 := uR (uR F 0 (lkw F (i + 1))) 12 (upd (F 12) 2 (F 12 2 + sm (lks F) i))
theorem hrw_0 (F : Nat → Nat → Int32) : hrw F 0 = F := by
  have e0 : lkw F 0 = F 0 := funext (lkw_0 F)
  have e1 : upd (F 12) 2 (F 12 2 + sm (lks F) 0) = F 12 := by
    funext j
    by_cases h : j = 2
    · subst h
      rw [upd_s]
      exact Int32.add_zero _
    · rw [upd_n _ _ h]
  unfold hrw
  rw [e0, uR_same, e1, uR_same]
theorem hr_by (F : Nat → Nat → Int32) (i : Nat) : mn (hrw F i 2 i) (hrw F i 0 i) = lks F i := by
  have e1 : hrw F i 2 i = F 2 i := rfl
  have e2 : hrw F i 0 i = lkw F i i := rfl
  rw [e1, e2, lkw_i, mn_comm]
  rfl
theorem i_neg (x y : Int32) : x + -y = x - y := (Int32.sub_eq_add_neg x y).symm
theorem hr_v (F : Nat → Nat → Int32) (i : Nat) : u2 (hrw F i) 0 i (hrw F i 0 i + -(lks F i)) = hrv F i := by
  funext r
  unfold u2 hrv
  have e2 : hrw F i 0 = lkw F i := rfl
  by_cases h : r = 0
  · subst h
    rw [uR_s, e2, i_neg]
    have e3 : uR (uR F 0 (lkw F (i + 1))) 12 (upd (F 12) 2 (F 12 2 + sm (lks F) i)) 0 = lkw F (i + 1) := rfl
    rw [e3]
    exact funext (lkw_s F)
  · rw [uR_n _ _ h]
    unfold hrw
    by_cases h2 : r = 12
    · subst h2; rw [uR_s, uR_s]
    · rw [uR_n _ _ h2, uR_n _ _ h2, uR_n _ _ h, uR_n _ _ h]
theorem hr_w (F : Nat → Nat → Int32) (i : Nat) : u2 (hrv F i) 12 2 (hrv F i 12 2 + lks F i) = hrw F (i + 1) := by
  have e1 : hrv F i 12 2 = F 12 2 + sm (lks F) i := upd_s (F 12) 2 (F 12 2 + sm (lks F) i)
  have e2 : hrv F i 12 = upd (F 12) 2 (F 12 2 + sm (lks F) i) := rfl
  funext r
  unfold u2
  rw [e1, e2]
  by_cases h2 : r = 12
  · subst h2
    have e3 : hrw F (i + 1) 12 = upd (F 12) 2 (F 12 2 + sm (lks F) (i + 1)) := rfl
    rw [uR_s, e3]
    funext j
    by_cases h : j = 2
    · subst h
      rw [upd_s, upd_s]
      simp only [sm]
      rw [Int32.add_assoc]
    · rw [upd_n _ _ h, upd_n _ _ h, upd_n _ _ h]
  · rw [uR_n _ _ h2]
    unfold hrv hrw
    rw [uR_n _ _ h2, uR_n _ _ h2]
theorem GB_lkg {F : Nat → Nat → Int32} (h : GB F) {j : Nat} (hj : j < 8) : 0 ≤ (lkg F j).toInt ∧ (lkg F j).toInt ≤ 200 := by
  obtain ⟨a, b⟩ := lkg_toInt (GB_FR h) hj
  have c := lks_in (GB_FR h) hj
  have d := (h.1 j hj).1
  omega
theorem GB_hr1 {S : Nat → Nat → Int32} (h : GB S) : GB (hr1 S) := h
theorem GB_hr2 {S : Nat → Nat → Int32} (h : GB S) : GB (hr2 S) := ⟨fun j hj => ⟨GB_lkg (GB_hr1 h) hj, (h.1 j hj).2⟩, fun r hr => h.2 r hr⟩
theorem snT_01 {F : Nat → Nat → Int32} (h : ∀ r, r < 7 → F 3 r = 0 ∨ F 3 r = 1) {r : Nat} (hr : r < 7) : snT F r = 0 ∨ snT F r = 1 := by
  unfold snT
  by_cases c : (sn F 7).1 = -1000
  · rw [if_pos c]; exact h r hr
  · rw [if_neg c]; exact upd01 h (Or.inl rfl) r hr
theorem GB_hour {S : Nat → Nat → Int32} (h : GB S) : GB (hourS S) := ⟨fun j hj => ⟨GB_lkg (GB_hr1 h) hj, (h.1 j hj).2⟩, fun r hr => ⟨snT_01 (F := hr2 S) (GB_T (GB_hr2 h)) hr, (h.2 r hr).2⟩⟩
theorem GB_hrs {S : Nat → Nat → Int32} (h : GB S) : ∀ i, GB (hrs S i)
  | 0 => h
  | i + 1 => GB_hour (GB_hrs h i)
theorem A5_hr2 (S : Nat → Nat → Int32) : A5 (hrw (hr1 S) 8) (hr2 S) := ⟨fun j hj => ⟨lkw_o (hr1 S) hj, rfl, rfl⟩, fun _ _ => ⟨rfl, rfl, rfl⟩⟩
theorem hr_sn {S : Nat → Nat → Int32} (h : GB S) : (snR (hrw (hr1 S) 8) (ht (hrw (hr1 S) 8)) 7).1 = (sn (hr2 S) 7).1 := by
  have hb : ∀ j, j < 8 → 0 ≤ (hr2 S 6 j).toInt ∧ (hr2 S 6 j).toInt ≤ 999 := fun j hj => by
    rw [hr2_hM S j]
    exact ht_in (GB_hr2 h) hj
  rw [snR_C (A5_hr2 S) (GB_hr2 h) (fun j _ => (A5_ht (A5_hr2 S) j).trans (hr2_hM S j).symm) hb 7 (Nat.le_refl _)]
/-- how many ribbons snap in an hour -/
def svn (S : Nat → Nat → Int32) : Int32 := if (sn (hr2 S) 7).1 = -1000 then 0 else 1
theorem hr_e0 {S : Nat → Nat → Int32} (c : (sn (hr2 S) 7).1 = -1000) (A : Nat → Nat → Nat → Int32) (a j : Nat) : enc (uA A a (hrw (hr1 S) 8)) j = enc (uA A a (hourS S)) j := by
  refine enc_cg A a (fun r i h => ?_) j
  obtain ⟨h6, h⟩ := h
  have e3 : snT (hr2 S) = S 3 := snT_z c
  by_cases h0 : r = 0
  · subst h0
    have hi : i < 8 := by omega
    exact lkw_o (hr1 S) hi
  by_cases h3 : r = 3
  · subst h3
    show S 3 i = snT (hr2 S) i
    rw [e3]
  by_cases h12 : r = 12
  · subst h12
    show upd (upd (S 12) 0 (S 12 0 + 1)) 2 (upd (S 12) 0 (S 12 0 + 1) 2 + sm (lks (hr1 S)) 8) i = upd (upd (upd (S 12) 0 (S 12 0 + 1)) 2 (S 12 2 + sm (lks (hr1 S)) 8)) 4 (S 12 4 + (if (sn (hr2 S) 7).1 = -1000 then 0 else 1)) i
    rw [if_pos c, Int32.add_zero, upd_n (S 12) _ (by decide : 2 ≠ 0)]
    by_cases h4 : i = 4
    · subst h4
      rw [upd_s, upd_n _ _ (by decide), upd_n _ _ (by decide)]
    · rw [upd_n _ _ h4]
  show hrw (hr1 S) 8 r i = hourS S r i
  unfold hrw hourS
  rw [uR_n _ _ h12, uR_n _ _ h0, uR_n _ _ h6, uR_n _ _ h12, uR_n _ _ h3, uR_n _ _ h0]
  unfold hr1
  rw [uR_n _ _ h12]
theorem hr_e1 {S : Nat → Nat → Int32} {k : Nat} (c : ¬ (sn (hr2 S) 7).1 = -1000) (e : (sn (hr2 S) 7).1 = nI k) (hk : k < 7) (A : Nat → Nat → Nat → Int32) (a j : Nat) : enc (uA A a (u2 (u2 (hrw (hr1 S) 8) 3 k 0) 12 4 ((u2 (hrw (hr1 S) 8) 3 k 0) 12 4 + 1))) j = enc (uA A a (hourS S)) j := by
  refine enc_cg A a (fun r i h => ?_) j
  obtain ⟨h6, h⟩ := h
  have e3 : ∀ i, upd (S 3) k 0 i = snT (hr2 S) i := fun i => snT_y (F := hr2 S) c e (by omega) i
  by_cases h0 : r = 0
  · subst h0
    have hi : i < 8 := by omega
    exact lkw_o (hr1 S) hi
  by_cases h3 : r = 3
  · subst h3
    exact e3 i
  by_cases h12 : r = 12
  · subst h12
    show upd (upd (upd (S 12) 0 (S 12 0 + 1)) 2 (upd (S 12) 0 (S 12 0 + 1) 2 + sm (lks (hr1 S)) 8)) 4 (upd (upd (S 12) 0 (S 12 0 + 1)) 2 (upd (S 12) 0 (S 12 0 + 1) 2 + sm (lks (hr1 S)) 8) 4 + 1) i = upd (upd (upd (S 12) 0 (S 12 0 + 1)) 2 (S 12 2 + sm (lks (hr1 S)) 8)) 4 (S 12 4 + (if (sn (hr2 S) 7).1 = -1000 then 0 else 1)) i
    rw [if_neg c, upd_n (S 12) _ (by decide : 2 ≠ 0), upd_n (upd (S 12) 0 (S 12 0 + 1)) _ (by decide : 4 ≠ 2), upd_n (S 12) _ (by decide : 4 ≠ 0)]
  show u2 (u2 (hrw (hr1 S) 8) 3 k 0) 12 4 ((u2 (hrw (hr1 S) 8) 3 k 0) 12 4 + 1) r i = hourS S r i
  unfold u2 hrw hourS
  rw [uR_n _ _ h12, uR_n _ _ h3, uR_n _ _ h12, uR_n _ _ h0, uR_n _ _ h6, uR_n _ _ h12, uR_n _ _ h3, uR_n _ _ h0]
  unfold hr1
  rw [uR_n _ _ h12]
theorem hrs_4 (S : Nat → Nat → Int32) : ∀ n, hrs S n 12 4 = S 12 4 + sm (fun k => svn (hrs S k)) n
  | 0 => (Int32.add_zero _).symm
  | n + 1 => by
    have e : hrs S (n + 1) 12 4 = hrs S n 12 4 + svn (hrs S n) := rfl
    rw [e, hrs_4 S n, Int32.add_assoc]
    rfl
theorem pas_eq (S : Nat → Nat → Int32) (n : Nat) : hrs S n 12 4 - S 12 4 = sm (fun k => svn (hrs S k)) n := by
  rw [hrs_4 S n, Int32.add_comm, Int32.add_sub_cancel]
/-! saving -/
def cpB (B : Nat → Nat → Nat → Int32) (x y i : Nat) : Nat → Int32 := fun j => if 130 * y ≤ j ∧ j < 130 * y + i then enc B (130 * x + (j - 130 * y)) else enc B j
theorem cpB_0 (B : Nat → Nat → Nat → Int32) (x y j : Nat) : enc B j = cpB B x y 0 j := (if_neg (by omega)).symm
theorem cpB_s {B : Nat → Nat → Nat → Int32} {x y i : Nat} (h : x ≠ y) (hi : i < 130) (j : Nat) : upd (cpB B x y i) (130 * y + i) (cpB B x y i (130 * x + i)) j = cpB B x y (i + 1) j := by
  have e : cpB B x y i (130 * x + i) = enc B (130 * x + i) := if_neg (by omega)
  rw [e]
  by_cases hj : j = 130 * y + i
  · subst hj
    rw [upd_s]
    unfold cpB
    rw [if_pos (by omega)]
    congr 1
    omega
  · rw [upd_n _ _ hj]
    unfold cpB
    by_cases c : 130 * y ≤ j ∧ j < 130 * y + i
    · rw [if_pos c, if_pos (by omega)]
    · rw [if_neg c, if_neg (by omega)]
theorem cpB_o {B : Nat → Nat → Nat → Int32} {x y i : Nat} (hi : i ≤ 130) (h : 130 ≤ i) (j : Nat) : cpB B x y i j = enc (uA B y (B x)) j := by
  have hi : i = 130 := by omega
  subst hi
  unfold cpB
  by_cases c : 130 * y ≤ j ∧ j < 130 * y + 130
  · rw [if_pos c]
    unfold enc uA
    rw [if_pos (by omega : j / 130 = y), show (130 * x + (j - 130 * y)) / 130 = x by omega, show (130 * x + (j - 130 * y)) % 130 = j % 130 by omega]
  · rw [if_neg c]
    unfold enc uA
    rw [if_neg (by omega : ¬ j / 130 = y)]
def shB (B : Nat → Nat → Nat → Int32) (k : Nat) : Nat → Nat → Nat → Int32 := fun j => if 1 ≤ j ∧ j < k then B (j + 1) else B j
theorem shB_1 (B : Nat → Nat → Nat → Int32) : shB B 1 = B := funext fun j => if_neg (by omega)
theorem shB_s {B : Nat → Nat → Nat → Int32} {k : Nat} (h : 1 ≤ k) : uA (shB B k) k (shB B k (k + 1)) = shB B (k + 1) := by
  funext j
  have e : shB B k (k + 1) = B (k + 1) := if_neg (by omega)
  rw [e]
  by_cases c : j = k
  · subst c
    rw [uA_s]
    exact (if_pos (by omega)).symm
  · rw [uA_n _ _ c]
    unfold shB
    by_cases d : 1 ≤ j ∧ j < k
    · rw [if_pos d, if_pos (by omega)]
    · rw [if_neg d, if_neg (by omega)]
def savB (B : Nat → Nat → Nat → Int32) (z : Nat) : Nat → Nat → Nat → Int32 := if z < 6 then uA B (z + 1) (B 0) else uA (shB B 6) 6 (B 0)
def savZ (z : Nat) : Nat := if z < 6 then z + 1 else z
theorem sav_a {B : Nat → Nat → Nat → Int32} {z k : Nat} (hz : z < 6) (hk : k = 1) : uA (shB B k) (z + 1) (shB B k 0) = savB B z := by
  subst hk
  rw [shB_1]
  exact (if_pos hz).symm
theorem sav_b {B : Nat → Nat → Nat → Int32} {z k : Nat} (hz : ¬ z < 6) (hk : k = 6) : uA (shB B k) 6 (shB B k 0) = savB B z := by
  subst hk
  have e : shB B 6 0 = B 0 := if_neg (by omega)
  rw [e]
  exact (if_neg hz).symm
theorem sav_c {B : Nat → Nat → Nat → Int32} {z k : Nat} (h : (k = 1 ∧ z < 6) ∨ (k = 6 ∧ z = 6)) : uA (shB B k) (savZ z) (shB B k 0) = savB B z := by
  rcases h with ⟨h1, h2⟩ | ⟨h1, h2⟩
  · rw [show savZ z = z + 1 from if_pos h2]
    exact sav_a h2 h1
  · subst h2
    exact sav_b (by omega) h1
theorem sav_0 (B : Nat → Nat → Nat → Int32) (z : Nat) : savB B z 0 = B 0 := by
  unfold savB
  by_cases h : z < 6
  · rw [if_pos h]; exact uA_n B _ (by omega)
  · rw [if_neg h, uA_n _ _ (by omega)]; exact if_neg (by omega)
theorem sav_7 (B : Nat → Nat → Nat → Int32) (z : Nat) : savB B z 7 = B 7 := by
  unfold savB
  by_cases h : z < 6
  · rw [if_pos h]; exact uA_n B _ (by omega)
  · rw [if_neg h, uA_n _ _ (by omega)]; exact if_neg (by omega)
theorem savZ_le {z : Nat} (h : z ≤ 6) : savZ z ≤ 6 := by unfold savZ; split <;> omega
theorem mend_id {F : Nat → Nat → Int32} (h : F 6 = ht F) : mended F = F := by
  unfold mended
  rw [← h, uR_same]
theorem mend_6 (F : Nat → Nat → Int32) : mended F 6 = ht (mended F) := funext fun k => (ht_rows (F := F) (G := mended F) rfl rfl rfl rfl k : ht F k = ht (mended F) k)
/-- the reasons, as the reference has them -/
theorem wn3_R {F : Nat → Nat → Int32} {b : Nat} (h : (F 1 b).toInt ≤ 10) : (if F 1 b = 10 then 5 else if 0 < F 6 b then 6 else 0) = wn3 F b := by
  unfold wn3
  have e : (10 : Int32).toInt = 10 := rfl
  by_cases c : F 1 b = 10
  · rw [if_pos c, if_neg (by rw [c]; decide)]
  · have d : ¬ (F 1 b).toInt = 10 := fun q => c (Int32.toInt_inj.mp q)
    have k : F 1 b < 10 := Int32.lt_iff_toInt_lt.mpr (by omega)
    rw [if_neg c, if_pos k]
theorem wnt_R {F : Nat → Nat → Int32} {r : Nat} {x : Int32} (h3 : F 3 r = 0) (hx : 0 ≤ x.toInt ∧ x.toInt ≤ 300) (b0 : 0 ≤ (F 6 r).toInt ∧ (F 6 r).toInt ≤ 999) (b1 : 0 ≤ (F 6 (r + 1)).toInt ∧ (F 6 (r + 1)).toInt ≤ 999) : (if inR (F 6 r - F 6 (r + 1)) (-x) x then 0 else 8) = wnt F r x := by
  have ea : (F 6 r - F 6 (r + 1)).toInt = (F 6 r).toInt - (F 6 (r + 1)).toInt := i_sub (by omega) (by omega) (by omega) (by omega)
  have z : (0 : Int32).toInt = 0 := rfl
  have en : (-x).toInt = - x.toInt := by
    have := i_sub (x := 0) (y := x) (by omega) (by omega) (by omega) (by omega)
    rw [z, Int32.zero_sub] at this
    omega
  have e0 : (0 - (F 6 r - F 6 (r + 1))).toInt = - (F 6 r - F 6 (r + 1)).toInt := by
    rw [i_sub (by omega) (by omega) (by omega) (by omega), z]; omega
  unfold wnt
  rw [if_pos h3]
  have key : x < (if 0 ≤ F 6 r - F 6 (r + 1) then F 6 r - F 6 (r + 1) else 0 - (F 6 r - F 6 (r + 1))) ↔ ¬ inR (F 6 r - F 6 (r + 1)) (-x) x := by
    unfold inR
    rw [Int32.lt_iff_toInt_lt, Int32.lt_iff_toInt_lt, Int32.lt_iff_toInt_lt, en]
    by_cases c : 0 ≤ F 6 r - F 6 (r + 1)
    · have c2 := Int32.le_iff_toInt_le.mp c
      rw [if_pos c]
      omega
    · have c2 := Int32.lt_iff_toInt_lt.mp (Int32.not_le.mp c)
      rw [if_neg c, e0]
      omega
  by_cases d : inR (F 6 r - F 6 (r + 1)) (-x) x
  · rw [if_pos d, if_neg (fun q => key.mp q d)]
  · rw [if_neg d, if_pos (key.mpr d)]

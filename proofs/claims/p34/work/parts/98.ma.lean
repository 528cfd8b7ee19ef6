/-! heights: the greatest that the wants and the ribbons allow -/
theorem bk_fw {F : Nat → Nat → Int32} (j : Nat) : j < 8 → (bk F j).toInt ≤ (fw F (7 - j)).toInt := by
  cases j with
  | zero => intro _; exact Int.le_refl _
  | succ j =>
    intro hj
    rw [bk_s, show 7 - (j + 1) = 6 - j by omega]
    by_cases c : F 3 (6 - j) = 0
    · rw [if_pos c]; exact Int.le_refl _
    · rw [if_neg c, mn_min]
      omega
theorem ht_fw {F : Nat → Nat → Int32} {k : Nat} (hk : k < 8) : (ht F k).toInt ≤ (fw F k).toInt := by
  have h := bk_fw (F := F) (7 - k) (by omega)
  rw [show 7 - (7 - k) = k by omega] at h
  exact h
theorem ht_wt {F : Nat → Nat → Int32} {k : Nat} (hk : k < 8) : (ht F k).toInt ≤ (wt F k).toInt := Int.le_trans (ht_fw hk) (fw_le k)
/-- no ribbon is longer than it is -/
theorem ht_tied {F : Nat → Nat → Int32} (h : GB F) {r : Nat} (hr : r < 7) (c : ¬ F 3 r = 0) : (ht F r).toInt ≤ (ht F (r + 1)).toInt + (F 4 r).toInt ∧ (ht F (r + 1)).toInt ≤ (ht F r).toInt + (F 4 r).toInt := by
  have hs := ht_step F hr
  rw [if_neg c] at hs
  have h1 := ht_in h (k := r + 1) (by omega)
  have hl := (h.2 r hr).2.1
  have hf := fw_in h r (by omega)
  have e1 := st_add (x := ht F (r + 1)) (y := F 4 r) (by omega) (by omega) (by omega) (by omega)
  have e2 := st_add (x := fw F r) (y := F 4 r) (by omega) (by omega) (by omega) (by omega)
  have hs2 : (ht F r).toInt = min (fw F r).toInt (ht F (r + 1) + F 4 r).toInt := by rw [hs, mn_min]
  have hf2 : (fw F (r + 1)).toInt = min (wt F (r + 1)).toInt (fw F r + F 4 r).toInt := by rw [fw_s, if_neg c, mn_min]
  have h3 := ht_fw (F := F) (k := r + 1) (by omega)
  omega
theorem fw_top {F : Nat → Nat → Int32} (h : GB F) {x : Nat → Int} (hw : ∀ k, k < 8 → x k ≤ (wt F k).toInt) (ht : ∀ r, r < 7 → ¬ F 3 r = 0 → x (r + 1) ≤ x r + (F 4 r).toInt) (k : Nat) : k < 8 → x k ≤ (fw F k).toInt := by
  induction k with
  | zero => intro _; exact hw 0 (by omega)
  | succ k ih =>
    intro hk
    have h1 := ih (by omega)
    have h2 := hw (k + 1) hk
    rw [fw_s]
    by_cases c : F 3 k = 0
    · rw [if_pos c]; exact h2
    · have h3 := ht k (by omega) c
      have hf := fw_in h k (by omega)
      have hl := (h.2 k (by omega)).2.1
      have e2 := st_add (x := fw F k) (y := F 4 k) (by omega) (by omega) (by omega) (by omega)
      rw [if_neg c, mn_min]
      omega
theorem bk_top {F : Nat → Nat → Int32} (h : GB F) {x : Nat → Int} (hf : ∀ k, k < 8 → x k ≤ (fw F k).toInt) (ht : ∀ r, r < 7 → ¬ F 3 r = 0 → x r ≤ x (r + 1) + (F 4 r).toInt) (j : Nat) : j < 8 → x (7 - j) ≤ (bk F j).toInt := by
  induction j with
  | zero => intro _; exact hf 7 (by omega)
  | succ j ih =>
    intro hj
    have h1 := ih (by omega)
    have h2 := hf (6 - j) (by omega)
    rw [bk_s, show 7 - (j + 1) = 6 - j by omega]
    by_cases c : F 3 (6 - j) = 0
    · rw [if_pos c]; exact h2
    · have h3 := ht (6 - j) (by omega) c
      rw [show 6 - j + 1 = 7 - j by omega] at h3
      have hb := bk_in h j (by omega)
      have hl := (h.2 (6 - j) (by omega)).2.1
      have e2 := st_add (x := bk F j) (y := F 4 (6 - j)) (by omega) (by omega) (by omega) (by omega)
      rw [if_neg c, mn_min]
      omega
/-- whatever keeps both is no higher -/
theorem ht_top {F : Nat → Nat → Int32} (h : GB F) {x : Nat → Int} (hw : ∀ k, k < 8 → x k ≤ (wt F k).toInt) (ht1 : ∀ r, r < 7 → ¬ F 3 r = 0 → x r ≤ x (r + 1) + (F 4 r).toInt ∧ x (r + 1) ≤ x r + (F 4 r).toInt) {k : Nat} (hk : k < 8) : x k ≤ (ht F k).toInt := by
  have h2 := bk_top h (fw_top h hw (fun r hr c => (ht1 r hr c).2)) (fun r hr c => (ht1 r hr c).1) (7 - k) (by omega)
  rw [show 7 - (7 - k) = k by omega] at h2
  exact h2
/-- greater wants, fewer ribbons: no height is less -/
theorem ht_mono {F G : Nat → Nat → Int32} (h : GB F) (h' : GB G) (hw : ∀ k, k < 8 → (wt F k).toInt ≤ (wt G k).toInt) (hr : ∀ r, r < 7 → ¬ G 3 r = 0 → ¬ F 3 r = 0 ∧ F 4 r = G 4 r) {k : Nat} (hk : k < 8) : (ht F k).toInt ≤ (ht G k).toInt :=
  ht_top h' (x := fun k => (ht F k).toInt) (fun k hk => Int.le_trans (ht_wt hk) (hw k hk)) (fun r hr9 c => by
    have h1 := ht_tied h hr9 (hr r hr9 c).1
    rw [(hr r hr9 c).2] at h1
    exact h1) hk
/-- a ribbon tied that is long enough changes no height -/
theorem ht_tie {S : Nat → Nat → Int32} (h : GB S) {r : Nat} {x : Int32} (hr : r < 7) (h0 : S 3 r = 0) (hx : 0 ≤ x.toInt ∧ x.toInt ≤ 300) (hd : (ht S r).toInt - (ht S (r + 1)).toInt ≤ x.toInt ∧ (ht S (r + 1)).toInt - (ht S r).toInt ≤ x.toInt) {k : Nat} (hk : k < 8) : ht (tieS S r x) k = ht S k := by
  have hG : GB (tieS S r x) := by
    refine ⟨h.1, fun q hq => ⟨?_, ?_, (h.2 q hq).2.2⟩⟩
    · show upd (S 3) r 1 q = 0 ∨ upd (S 3) r 1 q = 1
      exact upd01 (fun q hq => (h.2 q hq).1) (Or.inr rfl) q hq
    · show 0 ≤ (upd (S 4) r x q).toInt ∧ (upd (S 4) r x q).toInt ≤ 300
      by_cases e : q = r
      · subst e; rw [upd_s]; exact hx
      · rw [upd_n _ _ e]; exact (h.2 q hq).2.1
  have e3 : ∀ q, ¬ q = r → tieS S r x 3 q = S 3 q ∧ tieS S r x 4 q = S 4 q := fun q e => by
    refine ⟨?_, ?_⟩
    · show upd (S 3) r 1 q = S 3 q
      exact upd_n _ _ e
    · show upd (S 4) r x q = S 4 q
      exact upd_n _ _ e
  have e4 : tieS S r x 4 r = x := by
    show upd (S 4) r x r = x
    exact upd_s _ _ _
  have ew : ∀ k, wt (tieS S r x) k = wt S k := fun k => wt_cg rfl rfl
  refine Int32.toInt_inj.mp (Int.le_antisymm ?_ ?_)
  · refine ht_mono hG h (fun k _ => by rw [ew]; exact Int.le_refl _) (fun q hq c => ?_) hk
    have e : ¬ q = r := fun e => c (by rw [e]; exact h0)
    rw [(e3 q e).1, (e3 q e).2]
    exact ⟨c, rfl⟩
  · refine ht_top hG (x := fun k => (ht S k).toInt) (fun k hk => by rw [ew]; exact ht_wt hk) (fun q hq c => ?_) hk
    by_cases e : q = r
    · subst e
      rw [e4]
      show (ht S q).toInt ≤ (ht S (q + 1)).toInt + x.toInt ∧ (ht S (q + 1)).toInt ≤ (ht S q).toInt + x.toInt
      omega
    · rw [(e3 q e).1] at c
      rw [(e3 q e).2]
      exact ht_tied h hq c
/-! strings -/
theorem ss_r {F : Nat → Nat → Int32} {r : Nat} (c : ¬ F 3 r = 0) : ss F (r + 1) = ss F r := ss_s c
/-- in each string somebody is as high as it wants -/
theorem full {F : Nat → Nat → Int32} (h : GB F) {k : Nat} (hk : k < 8) : ∃ e, e < 8 ∧ ss F e = ss F k ∧ ht F e = wt F e := Classical.byContradiction fun hc => by
  have h1 := ht_top h (x := fun e => (ht F e).toInt + (if ss F e = ss F k then 1 else 0)) (fun e he => by
    have h2 := ht_wt (F := F) he
    by_cases c : ss F e = ss F k
    · have h3 : ¬ ht F e = wt F e := fun q => hc ⟨e, he, c, q⟩
      have h4 : ¬ (ht F e).toInt = (wt F e).toInt := fun q => h3 (Int32.toInt_inj.mp q)
      show (ht F e).toInt + (if ss F e = ss F k then 1 else 0) ≤ (wt F e).toInt
      rw [if_pos c]
      omega
    · show (ht F e).toInt + (if ss F e = ss F k then 1 else 0) ≤ (wt F e).toInt
      rw [if_neg c]
      omega) (fun r hr c => by
    have h2 := ht_tied h hr c
    show (ht F r).toInt + (if ss F r = ss F k then 1 else 0) ≤ (ht F (r + 1)).toInt + (if ss F (r + 1) = ss F k then 1 else 0) + (F 4 r).toInt ∧ (ht F (r + 1)).toInt + (if ss F (r + 1) = ss F k then 1 else 0) ≤ (ht F r).toInt + (if ss F r = ss F k then 1 else 0) + (F 4 r).toInt
    rw [ss_r c]
    split <;> omega) hk
  have h2 : (ht F k).toInt + (if ss F k = ss F k then 1 else 0) ≤ (ht F k).toInt := h1
  rw [if_pos rfl] at h2
  omega
theorem ss_up {F : Nat → Nat → Int32} (e : Nat) : ss F e ≤ ss F (e + 1) ∧ (ss F (e + 1) = ss F e ∨ ss F (e + 1) = e + 1) := by
  have h := ss_le F e
  by_cases c : F 3 e = 0
  · have e1 : ss F (e + 1) = e + 1 := if_pos c
    rw [e1]
    exact ⟨by omega, Or.inr rfl⟩
  · rw [ss_r c]
    exact ⟨Nat.le_refl _, Or.inl rfl⟩
/-- how many of the first n have their string's lowest at s -/
def cs (F : Nat → Nat → Int32) (s : Nat) : Nat → Nat
  | 0 => 0
  | n + 1 => cs F s n + (if ss F n = s then 1 else 0)
theorem cs_sm (F : Nat → Nat → Int32) (s : Nat) : ∀ n, sm (fun e => b1 (ss F e = s)) n = nI (cs F s n)
  | 0 => rfl
  | n + 1 => by
    show sm (fun e => b1 (ss F e = s)) n + b1 (ss F n = s) = nI (cs F s n + (if ss F n = s then 1 else 0))
    rw [cs_sm F s n]
    unfold b1
    by_cases c : ss F n = s
    · rw [if_pos c, if_pos c]; exact nI_add _ 1
    · rw [if_neg c, if_neg c]; exact nI_add _ 0
theorem ss_mono {F : Nat → Nat → Int32} {a : Nat} : ∀ n, ss F a ≤ ss F (a + n)
  | 0 => Nat.le_refl _
  | n + 1 => Nat.le_trans (ss_mono n) (ss_up (a + n)).1
theorem ss_ss {F : Nat → Nat → Int32} : ∀ k, ss F (ss F k) = ss F k
  | 0 => rfl
  | k + 1 => by
    by_cases c : F 3 k = 0
    · have e : ss F (k + 1) = k + 1 := if_pos c
      rw [e, e]
    · rw [ss_r c]; exact ss_ss k
/-- below: the same string down to its lowest -/
theorem ss_dn {F : Nat → Nat → Int32} {k e : Nat} (h : ss F k ≤ e) (h2 : e ≤ k) : ss F e = ss F k := by
  have h3 := ss_mono (F := F) (a := ss F k) (e - ss F k)
  have h4 := ss_mono (F := F) (a := e) (k - e)
  rw [show ss F k + (e - ss F k) = e by omega, ss_ss] at h3
  rw [show e + (k - e) = k by omega] at h4
  omega
theorem cs_lo {F : Nat → Nat → Int32} {k : Nat} : ∀ n, n ≤ ss F k → cs F (ss F k) n = 0
  | 0, _ => rfl
  | n + 1, h => by
    show cs F (ss F k) n + (if ss F n = ss F k then 1 else 0) = 0
    have h2 := ss_le F n
    rw [cs_lo n (by omega), if_neg (by omega)]
theorem cs_md {F : Nat → Nat → Int32} {k : Nat} : ∀ n, ss F k ≤ n → n ≤ k + 1 → cs F (ss F k) n = n - ss F k
  | 0, h, _ => by
    show 0 = 0 - ss F k
    omega
  | n + 1, h, h2 => by
    show cs F (ss F k) n + (if ss F n = ss F k then 1 else 0) = n + 1 - ss F k
    by_cases c : ss F k ≤ n
    · rw [cs_md n c (by omega), if_pos (ss_dn c (by omega))]
      omega
    · have h3 := ss_le F n
      rw [cs_lo n (by omega), if_neg (by omega)]
      omega
/-- past the string nobody counts -/
theorem cs_past {F : Nat → Nat → Int32} {s a : Nat} (h : s < ss F a) : ∀ n, cs F s (a + n) = cs F s a
  | 0 => rfl
  | n + 1 => by
    show cs F s (a + n) + (if ss F (a + n) = s then 1 else 0) = cs F s a
    have h2 := ss_mono (F := F) (a := a) n
    rw [cs_past h n, if_neg (by omega)]
    rfl
theorem cs_up {F : Nat → Nat → Int32} {s : Nat} : ∀ n q, ss F q = s → s ≤ q → cs F s (q + 1) = q + 1 - s → n + q = 7 → cs F s 8 = se F n q + 1 - s
  | 0, q, _, _, h2, h3 => by
    have e : q = 7 := by omega
    subst e
    exact h2
  | n + 1, q, h1, hs, h2, h3 => by
    simp only [se]
    by_cases c : F 3 q = 0
    · rw [if_pos c]
      have e : ss F (q + 1) = q + 1 := if_pos c
      have h4 := cs_past (F := F) (s := s) (a := q + 1) (by omega) (n + 1)
      rw [show q + 1 + (n + 1) = 8 by omega] at h4
      rw [h4, h2]
    · rw [if_neg c]
      have e := ss_r c
      refine cs_up n (q + 1) (by rw [e]; exact h1) (by omega) ?_ (by omega)
      show cs F s (q + 1) + (if ss F (q + 1) = s then 1 else 0) = q + 1 + 1 - s
      rw [h2, if_pos (by rw [e]; exact h1)]
      omega
/-- the balloons of a string, told one by one -/
theorem same {F : Nat → Nat → Int32} {k : Nat} (hk : k < 8) : sm (fun e => b1 (ss F e = ss F k)) 8 = nI (se F (7 - k) k - ss F k + 1) := by
  have h1 := ss_le F k
  have h2 := cs_md (F := F) (k := k) (k + 1) (by omega) (Nat.le_refl _)
  have h3 := cs_up (F := F) (s := ss F k) (7 - k) k rfl h1 h2 (by omega)
  have h4 := (se_ge F (7 - k) k).1
  rw [cs_sm, h3, show se F (7 - k) k + 1 - ss F k = se F (7 - k) k - ss F k + 1 by omega]
/-- how many strings: one, and one more for each ribbon that isn't tied -/
theorem strs (F : Nat → Nat → Int32) : ∀ n, sm (fun j => b1 (ss F j = j)) (n + 1) = nI (n + 1) - sm (fun j => b1 (¬ F 3 j = 0)) n
  | 0 => by
    show (0 : Int32) + b1 (ss F 0 = 0) = nI (0 + 1) - 0
    have e : b1 (ss F 0 = 0) = 1 := if_pos rfl
    rw [e]
    rfl
  | n + 1 => by
    show sm (fun j => b1 (ss F j = j)) (n + 1) + b1 (ss F (n + 1) = n + 1) = nI (n + 1 + 1) - (sm (fun j => b1 (¬ F 3 j = 0)) n + b1 (¬ F 3 n = 0))
    have h := ss_le F n
    have e : nI (n + 1 + 1) = nI (n + 1) + 1 := (nI_add (n + 1) 1).symm
    rw [strs F n, e]
    unfold b1
    by_cases c : F 3 n = 0
    · have e2 : ss F (n + 1) = n + 1 := if_pos c
      rw [if_pos e2, if_neg (fun q => q c), Int32.add_zero]
      simp only [Int32.sub_eq_add_neg]
      rw [Int32.add_assoc, Int32.add_comm (-_) 1, ← Int32.add_assoc]
    · have e2 : ¬ ss F (n + 1) = n + 1 := by rw [ss_r c]; omega
      rw [if_neg e2, if_pos c, Int32.add_zero]
      simp only [Int32.sub_eq_add_neg, Int32.neg_add]
      rw [Int32.add_assoc, Int32.add_comm 1, Int32.add_assoc, Int32.add_left_neg, Int32.add_zero]
/-- is it full yet, of the first n balloons -/
def fuI (S : Nat → Nat → Int32) (k : Nat) : Nat → Int32
  | 0 => 0
  | n + 1 => if ¬ fuI S k n = 0 then 1 else if ss S n = ss S k ∧ S 6 n = wt S n then 1 else 0
theorem fu_1 {S : Nat → Nat → Int32} {k i : Nat} (c : ¬ fuI S k i = 0) : 1 = fuI S k (i + 1) := (if_pos c).symm
theorem fu_2 {S : Nat → Nat → Int32} {k i : Nat} (c : fuI S k i = 0) (d : ss S i = ss S k) (e : S 6 i = wt S i) : 1 = fuI S k (i + 1) := by
  simp only [fuI]
  rw [if_neg (fun q => q c), if_pos ⟨d, e⟩]
theorem fu_3 {S : Nat → Nat → Int32} {k i : Nat} (c : fuI S k i = 0) (d : ¬ ss S i = ss S k) : 0 = fuI S k (i + 1) := by
  simp only [fuI]
  rw [if_neg (fun q => q c), if_neg (fun q => d q.1)]
theorem fu_4 {S : Nat → Nat → Int32} {k i : Nat} (c : fuI S k i = 0) (e : ¬ S 6 i = wt S i) : 0 = fuI S k (i + 1) := by
  simp only [fuI]
  rw [if_neg (fun q => q c), if_neg (fun q => e q.2)]
theorem fu_01 (S : Nat → Nat → Int32) (k : Nat) : ∀ n, fuI S k n = 0 ∨ fuI S k n = 1
  | 0 => Or.inl rfl
  | n + 1 => by
    simp only [fuI]
    split
    · exact Or.inr rfl
    · split
      · exact Or.inr rfl
      · exact Or.inl rfl
theorem fu_y {S : Nat → Nat → Int32} {k e : Nat} (h : ss S e = ss S k ∧ S 6 e = wt S e) : ∀ n, fuI S k (e + 1 + n) = 1
  | 0 => by
    show (if ¬ fuI S k e = 0 then 1 else if ss S e = ss S k ∧ S 6 e = wt S e then 1 else 0) = (1 : Int32)
    rw [if_pos h]
    split <;> rfl
  | n + 1 => by
    show (if ¬ fuI S k (e + 1 + n) = 0 then 1 else if ss S (e + 1 + n) = ss S k ∧ S 6 (e + 1 + n) = wt S (e + 1 + n) then 1 else 0) = (1 : Int32)
    rw [fu_y h n]
    rfl
theorem fu_all {S : Nat → Nat → Int32} (h : OK S) {k : Nat} (hk : k < 8) : fuI S k 8 = 1 := by
  obtain ⟨e, he, h1, h2⟩ := full h.1 hk
  have h3 := fu_y (S := S) (k := k) (e := e) ⟨h1, by rw [h.2.1]; exact h2⟩ (7 - e)
  rw [show e + 1 + (7 - e) = 8 by omega] at h3
  exact h3

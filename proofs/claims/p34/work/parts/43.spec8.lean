/-- the reference's pull, as it is written: h the heights -/
def upR (F : Nat → Nat → Int32) (h : Nat → Int32) (r : Nat) : Nat := if F 4 r = 0 then (if wt F (r + 1) ≤ wt F r then r else r + 1) else if 0 ≤ h r - h (r + 1) then r else r + 1
def plR (F : Nat → Nat → Int32) (h : Nat → Int32) (r : Nat) : Int32 := if F 3 r = 0 then 0 else if h r - h (r + 1) = F 4 r ∨ h r - h (r + 1) = 0 - F 4 r then wt F (upR F h r) - h (upR F h r) else 0
theorem plR_0 {F : Nat → Nat → Int32} {h : Nat → Int32} {r : Nat} (c : b1 (¬ F 3 r = 0) = 0) : 0 = plR F h r := (if_pos (Decidable.not_not.mp (b1_z c))).symm
theorem plR_z {F : Nat → Nat → Int32} {h : Nat → Int32} {r : Nat} (t : ¬ b1 (¬ F 3 r = 0) = 0) (c1 : ¬ h r - h (r + 1) = F 4 r) (c2 : ¬ h r - h (r + 1) = 0 - F 4 r) : 0 = plR F h r := by
  unfold plR
  rw [if_neg (b1_t t), if_neg (fun z => z.elim c1 c2)]
theorem plR_v {F : Nat → Nat → Int32} {h : Nat → Int32} {r q : Nat} (t : ¬ b1 (¬ F 3 r = 0) = 0) (c : h r - h (r + 1) = F 4 r ∨ h r - h (r + 1) = 0 - F 4 r) (hq : upR F h r = q) : wt F q - h q = plR F h r := by
  unfold plR
  rw [if_neg (b1_t t), if_pos c, hq]
theorem upR_1 {F : Nat → Nat → Int32} {h : Nat → Int32} {r : Nat} (c : F 4 r = 0) (d : ¬ wt F (r + 1) ≤ wt F r) : upR F h r = r + 1 := by
  unfold upR
  rw [if_pos c, if_neg d]
theorem upR_2 {F : Nat → Nat → Int32} {h : Nat → Int32} {r : Nat} (c : F 4 r = 0) (d : wt F (r + 1) ≤ wt F r) : upR F h r = r := by
  unfold upR
  rw [if_pos c, if_pos d]
theorem upR_3 {F : Nat → Nat → Int32} {h : Nat → Int32} {r : Nat} (c : ¬ F 4 r = 0) (d : ¬ 0 ≤ h r - h (r + 1)) : upR F h r = r + 1 := by
  unfold upR
  rw [if_neg c, if_neg d]
theorem upR_4 {F : Nat → Nat → Int32} {h : Nat → Int32} {r : Nat} (c : ¬ F 4 r = 0) (d : 0 ≤ h r - h (r + 1)) : upR F h r = r := by
  unfold upR
  rw [if_neg c, if_pos d]
/-- the reference's choice of the ribbon that snaps: the first of the greatest pull among those it can't bear -/
def snR (F : Nat → Nat → Int32) (h : Nat → Int32) : Nat → Int32 × Int32
  | 0 => (-1000, 0)
  | n + 1 => if ¬ plR F h n ≤ F 5 n ∧ ¬ plR F h n ≤ (snR F h n).2 then (nI n, plR F h n) else snR F h n
theorem snR_y {F : Nat → Nat → Int32} {h : Nat → Int32} {n : Nat} (c : ¬ plR F h n ≤ F 5 n) (d : ¬ plR F h n ≤ (snR F h n).2) : snR F h (n + 1) = (nI n, plR F h n) := by
  simp only [snR]
  rw [if_pos ⟨c, d⟩]
theorem snR_1 {F : Nat → Nat → Int32} {h : Nat → Int32} {n : Nat} (c : plR F h n ≤ F 5 n) : snR F h (n + 1) = snR F h n := by
  simp only [snR]
  rw [if_neg (fun z => z.1 c)]
theorem snR_2 {F : Nat → Nat → Int32} {h : Nat → Int32} {n : Nat} (c : plR F h n ≤ (snR F h n).2) : snR F h (n + 1) = snR F h n := by
  simp only [snR]
  rw [if_neg (fun z => z.2 c)]

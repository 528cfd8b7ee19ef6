/-! what the looks answer -/
theorem b1_1 {p : Prop} [Decidable p] (c : ¬ b1 p = 0) : 1 = b1 p := by
  unfold b1 at c ⊢
  by_cases h : p
  · rw [if_pos h]
  · rw [if_neg h] at c; exact absurd rfl c
def balS (S : Nat → Nat → Int32) (b : Nat) : Nat → Int32
  | 0 => S 0 b
  | 1 => S 1 b
  | 2 => S 2 b
  | 3 => lift S b
  | 4 => wt S b
  | 5 => S 6 b
  | 6 => hbs S b
  | 7 => S 10 b
  | 8 => S 12 0 - S 11 b
  | 9 => tel S b
  | 10 => nI (ss S b)
  | _ => nI (se S (7 - b) b - ss S b + 1)
def ribS (S : Nat → Nat → Int32) (r : Nat) : Nat → Int32
  | 0 => b1 (¬ S 3 r = 0)
  | 1 => S 4 r
  | 2 => S 5 r
  | 3 => pulC S r
  | _ => b1 (S 5 r < pulC S r)
def cntS (S : Nat → Nat → Int32) (z : Nat) : Nat → Int32
  | 0 => S 12 0
  | 1 => sm (S 0) 8
  | 2 => 480 + S 12 1 - S 12 2 - S 12 3
  | 3 => S 12 1
  | 4 => S 12 2
  | 5 => S 12 3
  | 6 => sm (fun j => b1 (¬ S 3 j = 0)) 7
  | 7 => S 12 4
  | 8 => 8 - sm (fun j => b1 (¬ S 3 j = 0)) 7
  | 9 => sm (S 6) 8
  | 10 => nI (hiN (S 6) 7)
  | 11 => sm (fun j => b1 (S 6 j = 0)) 8
  | 12 => S 12 5
  | 13 => S 12 8
  | _ => nI z
def whyS (S : Nat → Nat → Int32) (k : Nat) : Nat → Int32
  | 0 => wn0 S k 1
  | 1 => wn1 S k 1
  | 2 => wn2 S k
  | 3 => wn3 S k
  | 4 => wnt S k 100
  | _ => wn5 S k
/-- the flock with a bag of the balloon b dropped -/
def dpF (S : Nat → Nat → Int32) (b : Nat) : Nat → Nat → Int32 := uR (uR S 1 (upd (S 1) b (S 1 b - 1))) 6 (ht (uR S 1 (upd (S 1) b (S 1 b - 1))))
def drpS (S : Nat → Nat → Int32) (b : Nat) (w : Nat) : Int32 := if S 1 b = 0 then -1000 else match w with
  | 0 => dpF S b 6 b
  | 1 => sm (dpF S b 6) 8
  | _ => sm (fun j => b1 (dpF S b 5 j < pulC (dpF S b) j)) 7
/-- what the trial's flock holds behind it -/
def drpK (S K : Nat → Nat → Int32) (b : Nat) : Nat → Nat → Int32 := if S 1 b = 0 then K else dpF S b
def drI (S K : Nat → Nat → Int32) : Nat → Nat → Nat → Int32
  | 0 => K
  | i + 1 => drpK S (drI S K i) i
theorem drpK_z {S K : Nat → Nat → Int32} {b : Nat} (c : S 1 b = 0) (k j : Nat) : K k j = drpK S K b k j := (congrFun (congrFun (if_pos c : drpK S K b = K) k) j).symm
theorem drpK_n {S K : Nat → Nat → Int32} {b : Nat} (c : ¬ S 1 b = 0) (k j : Nat) : dpF S b k j = drpK S K b k j := (congrFun (congrFun (if_neg c : drpK S K b = dpF S b) k) j).symm
/-- the best bag and its sum, of the balloons below i -/
def bb (S : Nat → Nat → Int32) : Nat → Int32 × Int32
  | 0 => (-1000, -1000)
  | i + 1 => if (bb S i).2 < drpS S i 1 then (nI i, drpS S i 1) else bb S i
theorem bb_y {S : Nat → Nat → Int32} {i : Nat} (c : ¬ drpS S i 1 ≤ (bb S i).2) : bb S (i + 1) = (nI i, drpS S i 1) := if_pos (lt_yes c)
theorem bb_n {S : Nat → Nat → Int32} {i : Nat} (c : drpS S i 1 ≤ (bb S i).2) : bb S (i + 1) = bb S i := if_neg (lt_no c)
def stoS (S : Nat → Nat → Int32) : Nat → Int32
  | 0 => S 12 6
  | _ => S 12 7

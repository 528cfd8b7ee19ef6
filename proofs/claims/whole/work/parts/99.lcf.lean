theorem FL_of {t : Nat} {S : Nat → Nat → Int32} (ht : t < 600) (h : GD t S) : FLT S := by
  sorry

/-- the beginning's matrix, its heights mended -/
def begS : Nat → Nat → Int32 := uR init0 6 (ht init0)
/-- the address at a place of a list -/
def adr (as : List Nat) : Nat → Nat := fun i => as.getD i 0

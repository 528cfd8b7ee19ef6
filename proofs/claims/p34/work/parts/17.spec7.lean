/-! the deeds -/
def filS (S : Nat → Nat → Int32) (b : Nat) (x : Int32) : Nat → Nat → Int32 := uR (uR S 0 (upd (S 0) b (S 0 b + x))) 12 (upd (S 12) 1 (S 12 1 + x))
def venS (S : Nat → Nat → Int32) (b : Nat) (x : Int32) : Nat → Nat → Int32 := uR (uR S 0 (upd (S 0) b (S 0 b - x))) 12 (upd (S 12) 3 (S 12 3 + x))
def droS (S : Nat → Nat → Int32) (b : Nat) : Nat → Nat → Int32 := uR (uR S 1 (upd (S 1) b (S 1 b - 1))) 12 (upd (S 12) 5 (S 12 5 + 1))
def putS (S : Nat → Nat → Int32) (b : Nat) : Nat → Nat → Int32 := uR S 1 (upd (S 1) b (S 1 b + 1))
def tieS (S : Nat → Nat → Int32) (r : Nat) (x : Int32) : Nat → Nat → Int32 := uR (uR S 3 (upd (S 3) r 1)) 4 (upd (S 4) r x)
def cutS (S : Nat → Nat → Int32) (r : Nat) : Nat → Nat → Int32 := uR S 3 (upd (S 3) r 0)
def leaS (S : Nat → Nat → Int32) (b : Nat) (x : Int32) : Nat → Nat → Int32 := uR S 2 (upd (S 2) b x)
def beaS (S : Nat → Nat → Int32) (r : Nat) (x : Int32) : Nat → Nat → Int32 := uR S 5 (upd (S 5) r x)
def tunS (S : Nat → Nat → Int32) (b : Nat) (x : Int32) : Nat → Nat → Int32 := uR (uR S 10 (upd (S 10) b x)) 11 (upd (S 11) b (S 12 0))
def notS (S : Nat → Nat → Int32) (y b : Nat) : Nat → Nat → Int32 := uR (uR (uR (uR S 7 (nwr (S 7) (plc S y (nI b) (S 12 0)) (nI b))) 8 (nwr (S 8) (plc S y (nI b) (S 12 0)) (S 12 0))) 9 (nwr (S 9) (plc S y (nI b) (S 12 0)) (tel S b))) 12 (upd (S 12) 8 (nI (nsz y (plc S y (nI b) (S 12 0)))))
/-- a part of a text: the deed, if there is no reason against it -/
def atW (w : Int32) (S T : Nat → Nat → Int32) : Nat → Nat → Int32 := if w = 0 then T else S
abbrev atF (S : Nat → Nat → Int32) (b : Nat) (x : Int32) : Nat → Nat → Int32 := atW (wn0 S b x) S (mended (filS S b x))
abbrev atV (S : Nat → Nat → Int32) (b : Nat) (x : Int32) : Nat → Nat → Int32 := atW (wn1 S b x) S (mended (venS S b x))
abbrev atD (S : Nat → Nat → Int32) (b : Nat) : Nat → Nat → Int32 := atW (wn2 S b) S (mended (droS S b))
abbrev atP (S : Nat → Nat → Int32) (b : Nat) : Nat → Nat → Int32 := atW (wn3 S b) S (mended (putS S b))
abbrev atC (S : Nat → Nat → Int32) (r : Nat) : Nat → Nat → Int32 := atW (wn5 S r) S (mended (cutS S r))
theorem at_y {w : Int32} {S T : Nat → Nat → Int32} (c : w = 0) (k j : Nat) : T k j = atW w S T k j := by
  unfold atW
  rw [if_pos c]
theorem at_n {w : Int32} {S T : Nat → Nat → Int32} (c : ¬ w = 0) (k j : Nat) : S k j = atW w S T k j := by
  unfold atW
  rw [if_neg c]

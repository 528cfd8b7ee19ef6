/-! the class's world with all six saved states -/
abbrev stP (cI cZ : ClassId) (a : Nat → Nat) (S : Nat → Nat → Int32) : List va_W := [stO a (S 12 0) (S 12 1) (S 12 2) (S 12 3) (S 12 4) (S 12 5) (S 12 6) (S 12 7), flX cI cZ (a 1) (a 2) (a 3) (a 4) (a 5) (a 6) (a 7) (a 8) (S 0) (S 1) (S 2) (S 3) (S 4) (S 5) (S 6), ntX cI (a 9) (a 10) (a 11) (a 12) (S 7) (S 8) (S 9) (S 12 8), daX cI (a 13) (a 14) (S 10) (S 11)]
/-- now a / V 0, snapshot d / V 7, the saved ones in the order of the references c i / V (i + 1) -/
abbrev clW (cI cZ cS : ClassId) (x0 q0 q1 t0 k0 f0 : Nat) (w0 : Int32) (a d : Nat → Nat) (c : Nat → Nat → Nat) (f : Nat → Option Nat) (n : Int32) (V : Nat → Nat → Nat → Int32) (more : List va_W) : List va_W :=
  [rbC x0 (a 0) (d 0) q0 t0 k0 f0 w0] ++ (stP cI cZ a (V 0) ++ (stP cI cZ d (V 7) ++ ([hsC cS q0 q1 f n] ++ (stP cI cZ (c 0) (V 1) ++ (stP cI cZ (c 1) (V 2) ++ (stP cI cZ (c 2) (V 3) ++ (stP cI cZ (c 3) (V 4) ++ (stP cI cZ (c 4) (V 5) ++ (stP cI cZ (c 5) (V 6) ++ more)))))))))
/-- what saving does to the matrices: below six the next place is taken; full: the oldest goes -/
def savV (V : Nat → Nat → Nat → Int32) (z : Nat) : Nat → Nat → Nat → Int32 := fun k => if z < 6 then (if k = z + 1 then V 0 else V k) else (if k = 6 then V 0 else if 1 ≤ k ∧ k ≤ 5 then V (k + 1) else V k)
def vput (V : Nat → Nat → Nat → Int32) (S : Nat → Nat → Int32) : Nat → Nat → Nat → Int32 := fun k => if k = 0 then S else V k
section LIFT
variable {l : Launch} {y : MethodName} {wl : List Cond} {rm : Room} {D : va_G} {cI cZ cS cJ : ClassId} {as : List Value} {mc ms : Nat} {v : Option Value} {x0 q0 q1 t0 k0 f0 : Nat} {w0 : Int32} {a d : Nat → Nat} {c : Nat → Nat → Nat} {f : Nat → Option Nat} {V : Nat → Nat → Nat → Int32} {S : Nat → Nat → Int32} {more : List va_W}
/-- a call that saves at place 0, told of the slot alone: it is so of the whole -/
theorem lift_A0 (h : C0 l y wl rm D (tyL cI cZ cS cJ) as (List.flatten ([rbC x0 (a 0) (d 0) q0 t0 k0 f0 w0] ++ (stP cI cZ a (V 0) ++ ([hsC cS q0 q1 f (nI 0)] ++ stP cI cZ (c 0) (V 1))))) v (List.flatten ([rbC x0 (a 0) (d 0) q0 t0 k0 f0 w0] ++ (stP cI cZ a S ++ ([hsC cS q0 q1 f (nI (0 + 1))] ++ stP cI cZ (c 0) (V 0))))) mc ms) :
    CE (U := Unit) l y wl rm D (tyL cI cZ cS cJ) as (List.flatten (clW cI cZ cS x0 q0 q1 t0 k0 f0 w0 a d c f (nI 0) V more)) (fun _ => True) (fun _ => v) (fun _ => List.flatten (clW cI cZ cS x0 q0 q1 t0 k0 f0 w0 a d c f (nI (0 + 1)) (vput (savV V 0) S) more)) mc ms :=
  CE_imp (CE_frame (C0_E h) [0, 1, 2, 3, 4, 9, 10, 11, 12, 13] rfl (by decide +kernel) (fun _ => rfl) (fun _ => rfl)) (fun _ _ => ⟨(), trivial, rfl, rfl⟩)
/-- a call that saves at place 1, told of the slot alone: it is so of the whole -/
theorem lift_A1 (h : C0 l y wl rm D (tyL cI cZ cS cJ) as (List.flatten ([rbC x0 (a 0) (d 0) q0 t0 k0 f0 w0] ++ (stP cI cZ a (V 0) ++ ([hsC cS q0 q1 f (nI 1)] ++ stP cI cZ (c 1) (V 2))))) v (List.flatten ([rbC x0 (a 0) (d 0) q0 t0 k0 f0 w0] ++ (stP cI cZ a S ++ ([hsC cS q0 q1 f (nI (1 + 1))] ++ stP cI cZ (c 1) (V 0))))) mc ms) :
    CE (U := Unit) l y wl rm D (tyL cI cZ cS cJ) as (List.flatten (clW cI cZ cS x0 q0 q1 t0 k0 f0 w0 a d c f (nI 1) V more)) (fun _ => True) (fun _ => v) (fun _ => List.flatten (clW cI cZ cS x0 q0 q1 t0 k0 f0 w0 a d c f (nI (1 + 1)) (vput (savV V 1) S) more)) mc ms :=
  CE_imp (CE_frame (C0_E h) [0, 1, 2, 3, 4, 9, 14, 15, 16, 17] rfl (by decide +kernel) (fun _ => rfl) (fun _ => rfl)) (fun _ _ => ⟨(), trivial, rfl, rfl⟩)
/-- a call that saves at place 2, told of the slot alone: it is so of the whole -/
theorem lift_A2 (h : C0 l y wl rm D (tyL cI cZ cS cJ) as (List.flatten ([rbC x0 (a 0) (d 0) q0 t0 k0 f0 w0] ++ (stP cI cZ a (V 0) ++ ([hsC cS q0 q1 f (nI 2)] ++ stP cI cZ (c 2) (V 3))))) v (List.flatten ([rbC x0 (a 0) (d 0) q0 t0 k0 f0 w0] ++ (stP cI cZ a S ++ ([hsC cS q0 q1 f (nI (2 + 1))] ++ stP cI cZ (c 2) (V 0))))) mc ms) :
    CE (U := Unit) l y wl rm D (tyL cI cZ cS cJ) as (List.flatten (clW cI cZ cS x0 q0 q1 t0 k0 f0 w0 a d c f (nI 2) V more)) (fun _ => True) (fun _ => v) (fun _ => List.flatten (clW cI cZ cS x0 q0 q1 t0 k0 f0 w0 a d c f (nI (2 + 1)) (vput (savV V 2) S) more)) mc ms :=
  CE_imp (CE_frame (C0_E h) [0, 1, 2, 3, 4, 9, 18, 19, 20, 21] rfl (by decide +kernel) (fun _ => rfl) (fun _ => rfl)) (fun _ _ => ⟨(), trivial, rfl, rfl⟩)
/-- a call that saves at place 3, told of the slot alone: it is so of the whole -/
theorem lift_A3 (h : C0 l y wl rm D (tyL cI cZ cS cJ) as (List.flatten ([rbC x0 (a 0) (d 0) q0 t0 k0 f0 w0] ++ (stP cI cZ a (V 0) ++ ([hsC cS q0 q1 f (nI 3)] ++ stP cI cZ (c 3) (V 4))))) v (List.flatten ([rbC x0 (a 0) (d 0) q0 t0 k0 f0 w0] ++ (stP cI cZ a S ++ ([hsC cS q0 q1 f (nI (3 + 1))] ++ stP cI cZ (c 3) (V 0))))) mc ms) :
    CE (U := Unit) l y wl rm D (tyL cI cZ cS cJ) as (List.flatten (clW cI cZ cS x0 q0 q1 t0 k0 f0 w0 a d c f (nI 3) V more)) (fun _ => True) (fun _ => v) (fun _ => List.flatten (clW cI cZ cS x0 q0 q1 t0 k0 f0 w0 a d c f (nI (3 + 1)) (vput (savV V 3) S) more)) mc ms :=
  CE_imp (CE_frame (C0_E h) [0, 1, 2, 3, 4, 9, 22, 23, 24, 25] rfl (by decide +kernel) (fun _ => rfl) (fun _ => rfl)) (fun _ _ => ⟨(), trivial, rfl, rfl⟩)
/-- a call that saves at place 4, told of the slot alone: it is so of the whole -/
theorem lift_A4 (h : C0 l y wl rm D (tyL cI cZ cS cJ) as (List.flatten ([rbC x0 (a 0) (d 0) q0 t0 k0 f0 w0] ++ (stP cI cZ a (V 0) ++ ([hsC cS q0 q1 f (nI 4)] ++ stP cI cZ (c 4) (V 5))))) v (List.flatten ([rbC x0 (a 0) (d 0) q0 t0 k0 f0 w0] ++ (stP cI cZ a S ++ ([hsC cS q0 q1 f (nI (4 + 1))] ++ stP cI cZ (c 4) (V 0))))) mc ms) :
    CE (U := Unit) l y wl rm D (tyL cI cZ cS cJ) as (List.flatten (clW cI cZ cS x0 q0 q1 t0 k0 f0 w0 a d c f (nI 4) V more)) (fun _ => True) (fun _ => v) (fun _ => List.flatten (clW cI cZ cS x0 q0 q1 t0 k0 f0 w0 a d c f (nI (4 + 1)) (vput (savV V 4) S) more)) mc ms :=
  CE_imp (CE_frame (C0_E h) [0, 1, 2, 3, 4, 9, 26, 27, 28, 29] rfl (by decide +kernel) (fun _ => rfl) (fun _ => rfl)) (fun _ _ => ⟨(), trivial, rfl, rfl⟩)
/-- a call that saves at place 5, told of the slot alone: it is so of the whole -/
theorem lift_A5 (h : C0 l y wl rm D (tyL cI cZ cS cJ) as (List.flatten ([rbC x0 (a 0) (d 0) q0 t0 k0 f0 w0] ++ (stP cI cZ a (V 0) ++ ([hsC cS q0 q1 f (nI 5)] ++ stP cI cZ (c 5) (V 6))))) v (List.flatten ([rbC x0 (a 0) (d 0) q0 t0 k0 f0 w0] ++ (stP cI cZ a S ++ ([hsC cS q0 q1 f (nI (5 + 1))] ++ stP cI cZ (c 5) (V 0))))) mc ms) :
    CE (U := Unit) l y wl rm D (tyL cI cZ cS cJ) as (List.flatten (clW cI cZ cS x0 q0 q1 t0 k0 f0 w0 a d c f (nI 5) V more)) (fun _ => True) (fun _ => v) (fun _ => List.flatten (clW cI cZ cS x0 q0 q1 t0 k0 f0 w0 a d c f (nI (5 + 1)) (vput (savV V 5) S) more)) mc ms :=
  CE_imp (CE_frame (C0_E h) [0, 1, 2, 3, 4, 9, 30, 31, 32, 33] rfl (by decide +kernel) (fun _ => rfl) (fun _ => rfl)) (fun _ _ => ⟨(), trivial, rfl, rfl⟩)
end LIFT

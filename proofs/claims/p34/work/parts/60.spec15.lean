/-! work: a part's reason and its deed, and the parts one after another -/
def rsn (S : Nat → Nat → Int32) (c : Int32) (a : Nat) (y : Int32) : Int32 := if c = 102 then wn0 S a y else if c = 118 then wn1 S a y else if c = 100 then wn2 S a else if c = 112 then wn3 S a else if c = 99 then wn5 S a else 0
def cy (S : Nat → Nat → Int32) : Nat := (S 12 8).toNatClampNeg
def nxt (S : Nat → Nat → Int32) (c : Int32) (a : Nat) (y : Int32) : Nat → Nat → Int32 := if c = 102 then mended (filS S a y) else if c = 118 then mended (venS S a y) else if c = 100 then mended (droS S a) else if c = 112 then mended (putS S a) else if c = 99 then mended (cutS S a) else if c = 110 then notS S (cy S) a else hrs S a
/-- what a part tells: its letter, its number, its amount -/
def PL (c : Int32) (a : Nat) (y : Int32) : Prop := (c = 102 ∧ a < 8 ∧ 1 ≤ y.toInt ∧ y.toInt ≤ 99) ∨ (c = 118 ∧ a < 8 ∧ 1 ≤ y.toInt ∧ y.toInt ≤ 99) ∨ (c = 100 ∧ a < 8) ∨ (c = 112 ∧ a < 8) ∨ (c = 99 ∧ a < 7) ∨ (c = 110 ∧ a < 8) ∨ (c = 104 ∧ 1 ≤ a ∧ a ≤ 99)
/-- what holds of every state -/
def OK (S : Nat → Nat → Int32) : Prop := GB S ∧ S 6 = ht S ∧ S 12 8 = nI (cy S) ∧ cy S ≤ 20
theorem cy_of {S : Nat → Nat → Int32} {y : Nat} (h : S 12 8 = nI y) (h2 : y ≤ 20) : cy S = y := by
  unfold cy
  rw [h]
  exact nI_clamp (by omega)
theorem OK_of {S : Nat → Nat → Int32} {y : Nat} (h1 : GB S) (h2 : S 6 = ht S) (h : S 12 8 = nI y) (h3 : y ≤ 20) : OK S := by
  have e := cy_of h h3
  exact ⟨h1, h2, by rw [e]; exact h, by rw [e]; exact h3⟩
/-- alike in all but row 12: the same bounds and heights -/
theorem GB_r {S : Nat → Nat → Int32} {r : Nat} (f : Nat → Int32) (hr : 6 ≤ r) (h : GB S) : GB (uR S r f) := by
  unfold GB
  rw [uR_n S f (by omega : 0 ≠ r), uR_n S f (by omega : 1 ≠ r), uR_n S f (by omega : 2 ≠ r), uR_n S f (by omega : 3 ≠ r), uR_n S f (by omega : 4 ≠ r), uR_n S f (by omega : 5 ≠ r)]
  exact h
theorem ht_r {S : Nat → Nat → Int32} {r : Nat} (f : Nat → Int32) (hr : 5 ≤ r ∨ r = 2) : ht (uR S r f) = ht S := by
  refine funext fun k => ht_rows ?_ ?_ ?_ ?_ k
  · exact uR_n S f (by omega)
  · exact uR_n S f (by omega)
  · exact uR_n S f (by omega)
  · exact uR_n S f (by omega)
theorem OK_12 {S : Nat → Nat → Int32} {f : Nat → Int32} {y : Nat} (h : OK S) (hf : f 8 = nI y) (hy : y ≤ 20) : OK (uR S 12 f) := by
  refine OK_of (y := y) (GB_r f (by omega) h.1) ?_ ?_ hy
  · rw [ht_r f (Or.inl (by omega)), uR_n S f (by omega : 6 ≠ 12)]
    exact h.2.1
  · rw [uR_s]
    exact hf
theorem OK_m {S : Nat → Nat → Int32} {y : Nat} (h : GB S) (hf : S 12 8 = nI y) (hy : y ≤ 20) : OK (mended S) := OK_of (y := y) (GB_r (ht S) (by omega) h) (mend_6 S) (by unfold mended; rw [uR_n S (ht S) (by omega : 12 ≠ 6)]; exact hf) hy
theorem GB_0 {S : Nat → Nat → Int32} {b : Nat} {x : Int32} (h : GB S) (hx : 0 ≤ x.toInt ∧ x.toInt ≤ 200) : GB (uR S 0 (upd (S 0) b x)) := by
  unfold GB
  rw [uR_s, uR_n S _ (by omega : 1 ≠ 0), uR_n S _ (by omega : 2 ≠ 0), uR_n S _ (by omega : 3 ≠ 0), uR_n S _ (by omega : 4 ≠ 0), uR_n S _ (by omega : 5 ≠ 0)]
  refine ⟨fun j hj => ⟨?_, (h.1 j hj).2⟩, h.2⟩
  by_cases e : j = b
  · subst e; rw [upd_s]; exact hx
  · rw [upd_n _ _ e]; exact (h.1 j hj).1
theorem GB_1 {S : Nat → Nat → Int32} {b : Nat} {x : Int32} (h : GB S) (hx : 0 ≤ x.toInt ∧ x.toInt ≤ 10) : GB (uR S 1 (upd (S 1) b x)) := by
  unfold GB
  rw [uR_s, uR_n S _ (by omega : 0 ≠ 1), uR_n S _ (by omega : 2 ≠ 1), uR_n S _ (by omega : 3 ≠ 1), uR_n S _ (by omega : 4 ≠ 1), uR_n S _ (by omega : 5 ≠ 1)]
  refine ⟨fun j hj => ⟨(h.1 j hj).1, ?_, (h.1 j hj).2.2⟩, h.2⟩
  by_cases e : j = b
  · subst e; rw [upd_s]; exact hx
  · rw [upd_n _ _ e]; exact (h.1 j hj).2.1
theorem GB_2 {S : Nat → Nat → Int32} {b : Nat} {x : Int32} (h : GB S) (hx : 0 ≤ x.toInt ∧ x.toInt ≤ 9) : GB (uR S 2 (upd (S 2) b x)) := by
  unfold GB
  rw [uR_s, uR_n S _ (by omega : 0 ≠ 2), uR_n S _ (by omega : 1 ≠ 2), uR_n S _ (by omega : 3 ≠ 2), uR_n S _ (by omega : 4 ≠ 2), uR_n S _ (by omega : 5 ≠ 2)]
  refine ⟨fun j hj => ⟨(h.1 j hj).1, (h.1 j hj).2.1, ?_⟩, h.2⟩
  by_cases e : j = b
  · subst e; rw [upd_s]; exact hx
  · rw [upd_n _ _ e]; exact (h.1 j hj).2.2
theorem GB_3 {S : Nat → Nat → Int32} {b : Nat} {x : Int32} (h : GB S) (hx : x = 0 ∨ x = 1) : GB (uR S 3 (upd (S 3) b x)) := by
  unfold GB
  rw [uR_s, uR_n S _ (by omega : 0 ≠ 3), uR_n S _ (by omega : 1 ≠ 3), uR_n S _ (by omega : 2 ≠ 3), uR_n S _ (by omega : 4 ≠ 3), uR_n S _ (by omega : 5 ≠ 3)]
  refine ⟨h.1, fun j hj => ⟨?_, (h.2 j hj).2⟩⟩
  by_cases e : j = b
  · subst e; rw [upd_s]; exact hx
  · rw [upd_n _ _ e]; exact (h.2 j hj).1
theorem GB_4 {S : Nat → Nat → Int32} {b : Nat} {x : Int32} (h : GB S) (hx : 0 ≤ x.toInt ∧ x.toInt ≤ 300) : GB (uR S 4 (upd (S 4) b x)) := by
  unfold GB
  rw [uR_s, uR_n S _ (by omega : 0 ≠ 4), uR_n S _ (by omega : 1 ≠ 4), uR_n S _ (by omega : 2 ≠ 4), uR_n S _ (by omega : 3 ≠ 4), uR_n S _ (by omega : 5 ≠ 4)]
  refine ⟨h.1, fun j hj => ⟨(h.2 j hj).1, ?_, (h.2 j hj).2.2⟩⟩
  by_cases e : j = b
  · subst e; rw [upd_s]; exact hx
  · rw [upd_n _ _ e]; exact (h.2 j hj).2.1
theorem GB_5 {S : Nat → Nat → Int32} {b : Nat} {x : Int32} (h : GB S) (hx : 0 ≤ x.toInt ∧ x.toInt ≤ 500) : GB (uR S 5 (upd (S 5) b x)) := by
  unfold GB
  rw [uR_s, uR_n S _ (by omega : 0 ≠ 5), uR_n S _ (by omega : 1 ≠ 5), uR_n S _ (by omega : 2 ≠ 5), uR_n S _ (by omega : 3 ≠ 5), uR_n S _ (by omega : 4 ≠ 5)]
  refine ⟨h.1, fun j hj => ⟨(h.2 j hj).1, (h.2 j hj).2.1, ?_⟩⟩
  by_cases e : j = b
  · subst e; rw [upd_s]; exact hx
  · rw [upd_n _ _ e]; exact (h.2 j hj).2.2
theorem wn0_in {S : Nat → Nat → Int32} {b : Nat} {x : Int32} (h : GB S) (hb : b < 8) (hx : 1 ≤ x.toInt ∧ x.toInt ≤ 99) (c : wn0 S b x = 0) : 0 ≤ (S 0 b + x).toInt ∧ (S 0 b + x).toInt ≤ 200 := by
  have g := (h.1 b hb).1
  have e : (S 0 b + x).toInt = (S 0 b).toInt + x.toInt := i_add (by omega) (by omega) (by omega) (by omega)
  have t : (200 : Int32).toInt = 200 := rfl
  unfold wn0 at c
  by_cases d : 200 < S 0 b + x
  · rw [if_pos d] at c; exact absurd c (by decide)
  · have d2 := Int32.le_iff_toInt_le.mp (Int32.not_lt.mp d)
    omega
theorem wn1_in {S : Nat → Nat → Int32} {b : Nat} {x : Int32} (h : GB S) (hb : b < 8) (hx : 1 ≤ x.toInt ∧ x.toInt ≤ 99) (c : wn1 S b x = 0) : 0 ≤ (S 0 b - x).toInt ∧ (S 0 b - x).toInt ≤ 200 := by
  have g := (h.1 b hb).1
  have e : (S 0 b - x).toInt = (S 0 b).toInt - x.toInt := i_sub (by omega) (by omega) (by omega) (by omega)
  unfold wn1 at c
  by_cases d : S 0 b < x
  · rw [if_pos d] at c; exact absurd c (by decide)
  · have d2 := Int32.le_iff_toInt_le.mp (Int32.not_lt.mp d)
    omega
theorem wn2_in {S : Nat → Nat → Int32} {b : Nat} (h : GB S) (hb : b < 8) (c : wn2 S b = 0) : 0 ≤ (S 1 b - 1).toInt ∧ (S 1 b - 1).toInt ≤ 10 := by
  have g := (h.1 b hb).2.1
  have o : (1 : Int32).toInt = 1 := rfl
  have e : (S 1 b - 1).toInt = (S 1 b).toInt - 1 := by rw [i_sub (by omega) (by omega) (by omega) (by omega), o]
  unfold wn2 at c
  by_cases d : S 1 b = 0
  · rw [if_pos d] at c; exact absurd c (by decide)
  · have d2 : ¬ (S 1 b).toInt = 0 := fun q => d (i_z q)
    omega
theorem wn3_in {S : Nat → Nat → Int32} {b : Nat} (h : GB S) (hb : b < 8) (c : wn3 S b = 0) : 0 ≤ (S 1 b + 1).toInt ∧ (S 1 b + 1).toInt ≤ 10 := by
  have g := (h.1 b hb).2.1
  have o : (1 : Int32).toInt = 1 := rfl
  have t : (10 : Int32).toInt = 10 := rfl
  have e : (S 1 b + 1).toInt = (S 1 b).toInt + 1 := by rw [i_add (by omega) (by omega) (by omega) (by omega), o]
  unfold wn3 at c
  by_cases d : S 1 b < 10
  · have d2 := Int32.lt_iff_toInt_lt.mp d
    omega
  · rw [if_neg d] at c; exact absurd c (by decide)
theorem OK_fil {S : Nat → Nat → Int32} {b : Nat} {x : Int32} (h : OK S) (hb : b < 8) (hx : 1 ≤ x.toInt ∧ x.toInt ≤ 99) (c : wn0 S b x = 0) : OK (mended (filS S b x)) :=
  OK_m (y := cy S) (GB_r _ (by omega) (GB_0 h.1 (wn0_in h.1 hb hx c))) h.2.2.1 h.2.2.2
theorem OK_ven {S : Nat → Nat → Int32} {b : Nat} {x : Int32} (h : OK S) (hb : b < 8) (hx : 1 ≤ x.toInt ∧ x.toInt ≤ 99) (c : wn1 S b x = 0) : OK (mended (venS S b x)) :=
  OK_m (y := cy S) (GB_r _ (by omega) (GB_0 h.1 (wn1_in h.1 hb hx c))) h.2.2.1 h.2.2.2
theorem OK_dro {S : Nat → Nat → Int32} {b : Nat} (h : OK S) (hb : b < 8) (c : wn2 S b = 0) : OK (mended (droS S b)) :=
  OK_m (y := cy S) (GB_r _ (by omega) (GB_1 h.1 (wn2_in h.1 hb c))) h.2.2.1 h.2.2.2
theorem OK_put {S : Nat → Nat → Int32} {b : Nat} (h : OK S) (hb : b < 8) (c : wn3 S b = 0) : OK (mended (putS S b)) :=
  OK_m (y := cy S) (GB_1 h.1 (wn3_in h.1 hb c)) h.2.2.1 h.2.2.2
theorem OK_cut {S : Nat → Nat → Int32} {b : Nat} (h : OK S) : OK (mended (cutS S b)) :=
  OK_m (y := cy S) (GB_3 h.1 (Or.inl rfl)) h.2.2.1 h.2.2.2
theorem OK_tie {S : Nat → Nat → Int32} {b : Nat} {x : Int32} (h : OK S) (hx : 0 ≤ x.toInt ∧ x.toInt ≤ 300) : OK (mended (tieS S b x)) :=
  OK_m (y := cy S) (GB_4 (S := uR S 3 (upd (S 3) b 1)) (GB_3 h.1 (Or.inr rfl)) hx) h.2.2.1 h.2.2.2
theorem OK_lea {S : Nat → Nat → Int32} {b : Nat} {x : Int32} (h : OK S) (hx : 0 ≤ x.toInt ∧ x.toInt ≤ 9) : OK (leaS S b x) :=
  OK_of (y := cy S) (GB_2 h.1 hx) ((h.2.1).trans (ht_r _ (Or.inr rfl)).symm) h.2.2.1 h.2.2.2
theorem OK_bea {S : Nat → Nat → Int32} {b : Nat} {x : Int32} (h : OK S) (hx : 0 ≤ x.toInt ∧ x.toInt ≤ 500) : OK (beaS S b x) :=
  OK_of (y := cy S) (GB_5 h.1 hx) ((h.2.1).trans (ht_r _ (Or.inl (by omega))).symm) h.2.2.1 h.2.2.2
theorem ht_rr {S : Nat → Nat → Int32} {r q : Nat} (f g : Nat → Int32) (hr : 5 ≤ r) (hq : 5 ≤ q) : ht (uR (uR S r f) q g) = ht S := (ht_r g (Or.inl hq)).trans (ht_r f (Or.inl hr))
theorem OK_tun {S : Nat → Nat → Int32} {b : Nat} {x : Int32} (h : OK S) : OK (tunS S b x) :=
  OK_of (y := cy S) (GB_r _ (by omega) (GB_r _ (by omega) h.1)) ((h.2.1).trans (ht_rr _ _ (by omega) (by omega)).symm) h.2.2.1 h.2.2.2
theorem nsz_le {z p : Nat} (hz : z ≤ 20) : nsz z p ≤ 20 := by
  unfold nsz
  split
  · exact hz
  · split <;> omega
theorem OK_not {S : Nat → Nat → Int32} {b : Nat} (h : OK S) : OK (notS S (cy S) b) := by
  refine OK_of (y := nsz (cy S) (plc S (cy S) (nI b) (S 12 0))) (GB_r _ (by omega) (GB_r _ (by omega) (GB_r _ (by omega) (GB_r _ (by omega) h.1)))) ?_ ?_ (nsz_le h.2.2.2)
  · have e : notS S (cy S) b 6 = S 6 := rfl
    rw [e, h.2.1]
    unfold notS
    rw [ht_r _ (Or.inl (by omega)), ht_r _ (Or.inl (by omega)), ht_r _ (Or.inl (by omega)), ht_r _ (Or.inl (by omega))]
  · unfold notS
    rw [uR_s]
    exact upd_s _ _ _
theorem hour_6 (S : Nat → Nat → Int32) : hourS S 6 = ht (hourS S) := by
  have e : hourS S 6 = ht (uR (hr2 S) 3 (snT (hr2 S))) := rfl
  rw [e]
  refine funext fun k => ht_rows ?_ ?_ ?_ ?_ k <;> rfl
theorem hour_8 (S : Nat → Nat → Int32) : hourS S 12 8 = S 12 8 := rfl
theorem OK_hour {S : Nat → Nat → Int32} (h : OK S) : OK (hourS S) := OK_of (y := cy S) (GB_hour h.1) (hour_6 S) (by rw [hour_8]; exact h.2.2.1) h.2.2.2
theorem OK_hrs {S : Nat → Nat → Int32} (h : OK S) : ∀ i, OK (hrs S i)
  | 0 => h
  | i + 1 => OK_hour (OK_hrs h i)
theorem OK_nxt {S : Nat → Nat → Int32} {c : Int32} {a : Nat} {y : Int32} (h : OK S) (hp : PL c a y) (hr : rsn S c a y = 0) : OK (nxt S c a y) := by
  rcases hp with ⟨rfl, h1, h2⟩ | ⟨rfl, h1, h2⟩ | ⟨rfl, h1⟩ | ⟨rfl, h1⟩ | ⟨rfl, h1⟩ | ⟨rfl, h1⟩ | ⟨rfl, h1⟩
  · exact OK_fil h h1 h2 hr
  · exact OK_ven h h1 h2 hr
  · exact OK_dro h h1 hr
  · exact OK_put h h1 hr
  · exact OK_cut h
  · exact OK_not h
  · exact OK_hrs h a
/-- the stop of the latest work -/
theorem hrs_67 (S : Nat → Nat → Int32) {j : Nat} (hj : j = 6 ∨ j = 7) : ∀ i, hrs S i 12 j = S 12 j
  | 0 => rfl
  | i + 1 => by
    rw [← hrs_67 S hj i]
    rcases hj with rfl | rfl <;> rfl
theorem nxt_67 {S : Nat → Nat → Int32} {c : Int32} {a : Nat} {y : Int32} (hp : PL c a y) : nxt S c a y 12 6 = S 12 6 := by
  rcases hp with ⟨rfl, -⟩ | ⟨rfl, -⟩ | ⟨rfl, -⟩ | ⟨rfl, -⟩ | ⟨rfl, -⟩ | ⟨rfl, -⟩ | ⟨rfl, -⟩
  · rfl
  · rfl
  · rfl
  · rfl
  · rfl
  · rfl
  · exact hrs_67 S (Or.inl rfl) a
def clr (S : Nat → Nat → Int32) : Nat → Nat → Int32 := uR S 12 (upd (upd (S 12) 6 (-1000)) 7 (-1000))
def stp (S : Nat → Nat → Int32) (k : Nat) (r : Int32) : Nat → Nat → Int32 := uR S 12 (upd (upd (S 12) 6 (nI k)) 7 r)
theorem clr_6 (S : Nat → Nat → Int32) : clr S 12 6 = -1000 := by
  unfold clr
  rw [uR_s, upd_n _ _ (by decide : (6 : Nat) ≠ 7), upd_s]
theorem stp_6 (S : Nat → Nat → Int32) (k : Nat) (r : Int32) : stp S k r 12 6 = nI k := by
  unfold stp
  rw [uR_s, upd_n _ _ (by decide : (6 : Nat) ≠ 7), upd_s]
theorem OK_clr {S : Nat → Nat → Int32} (h : OK S) : OK (clr S) := OK_12 (y := cy S) h h.2.2.1 h.2.2.2
theorem OK_stp {S : Nat → Nat → Int32} (h : OK S) (k : Nat) (r : Int32) : OK (stp S k r) := OK_12 (y := cy S) h h.2.2.1 h.2.2.2
/-- a part's number and amount, out of the text -/
def pa (T : Nat → Int32) (n i : Nat) : Nat := (prF T n i).toNatClampNeg
/-- the parts from the place i on, k being done -/
def wkl (T : Nat → Int32) (n : Nat) : Nat → Nat → Nat → (Nat → Nat → Int32) → (Nat → Nat → Int32) × Nat
  | 0, _, k, S => (S, k)
  | f + 1, i, k, S => if n ≤ i then (S, k) else if rsn S (cod T n i) (pa T n i) (prS T n i) = 0 then (if prP T n i < n then wkl T n f (prP T n i + 1) (k + 1) (nxt S (cod T n i) (pa T n i) (prS T n i)) else (nxt S (cod T n i) (pa T n i) (prS T n i), k + 1)) else (stp S k (rsn S (cod T n i) (pa T n i) (prS T n i)), k)
def wkT (T : Nat → Int32) (n : Nat) (S : Nat → Nat → Int32) : (Nat → Nat → Int32) × Nat := wkl T n (n + 1) 0 0 (clr S)
theorem nI_back {x : Int32} (h : 0 ≤ x.toInt) : x = nI x.toNatClampNeg := by
  have z : (0 : Int32).toInt = 0 := rfl
  obtain ⟨j, hj, e⟩ := nI_of (x := x) (fun c => by have := Int32.lt_iff_toInt_lt.mp c; omega)
  rw [e, nI_clamp hj]
theorem clamp_le {x : Int32} {n : Nat} (h : 0 ≤ x.toInt) (h2 : x.toInt ≤ n) (hn : n < 2147483648) : x.toNatClampNeg ≤ n := by
  have z : (0 : Int32).toInt = 0 := rfl
  obtain ⟨j, hj, e⟩ := nI_of (x := x) (fun c => by have := Int32.lt_iff_toInt_lt.mp c; omega)
  rw [e, nI_clamp hj]
  rw [e, nI_toInt hj] at h2
  omega
theorem clamp_ge {x : Int32} {n : Nat} (h2 : n ≤ x.toInt) : n ≤ x.toNatClampNeg := by
  have z : (0 : Int32).toInt = 0 := rfl
  obtain ⟨j, hj, e⟩ := nI_of (x := x) (fun c => by have := Int32.lt_iff_toInt_lt.mp c; omega)
  rw [e, nI_clamp hj]
  rw [e, nI_toInt hj] at h2
  omega
theorem fg_val {T : Nat → Int32} {n j : Nat} {lo hi : Int32} (d : dg lo hi) (h : ¬ fgv T n lo hi j = -1000) : lo.toInt ≤ (fgv T n lo hi j).toInt ∧ (fgv T n lo hi j).toInt ≤ hi.toInt := by
  have k := fgv_ok h
  have b := dg_in d k
  have e : (48 : Int32).toInt = 48 := rfl
  have k1 := (inR_int k).1
  have k2 := (inR_int k).2
  have s : (cod T n j - 48).toInt = (cod T n j).toInt - 48 := by rw [i_sub (by omega) (by omega) (by omega) (by omega), e]
  have a0 : (48 + 0 : Int32).toInt = 48 := by decide
  have a1 : (48 + 1 : Int32).toInt = 49 := by decide
  have b6 : (48 + 6 : Int32).toInt = 54 := by decide
  have b7 : (48 + 7 : Int32).toInt = 55 := by decide
  have b9 : (48 + 9 : Int32).toInt = 57 := by decide
  have c0 : (0 : Int32).toInt = 0 := rfl
  have c1 : (1 : Int32).toInt = 1 := rfl
  have c6 : (6 : Int32).toInt = 6 := rfl
  have c7 : (7 : Int32).toInt = 7 := rfl
  have c9 : (9 : Int32).toInt = 9 := rfl
  rw [(fgv_y k).1, s]
  obtain ⟨h1, h2⟩ := d
  rcases h1 with rfl | rfl <;> rcases h2 with rfl | rfl | rfl <;> omega
theorem am_val {T : Nat → Int32} {n j : Nat} (h : ¬ amv T n j = -1000) : 1 ≤ (amv T n j).toInt ∧ (amv T n j).toInt ≤ 99 := by
  have c : ¬ fgv T n 1 9 j = -1000 := fun q => h (if_pos q)
  have v := fg_val dg19 c
  have c0 : (0 : Int32).toInt = 0 := rfl
  have c1 : (1 : Int32).toInt = 1 := rfl
  have c9 : (9 : Int32).toInt = 9 := rfl
  have t : (10 : Int32).toInt = 10 := rfl
  by_cases c2 : fgv T n 0 9 (fgp T n 1 9 j) = -1000
  · have e : amv T n j = fgv T n 1 9 j := (if_neg c).trans (if_pos c2)
    rw [e]
    omega
  · have e : amv T n j = 10 * fgv T n 1 9 j + fgv T n 0 9 (fgp T n 1 9 j) := (if_neg c).trans (if_neg c2)
    have v2 := fg_val dg09 c2
    have m1 : (10 * fgv T n 1 9 j).toInt = 10 * (fgv T n 1 9 j).toInt := by
      rw [Int32.toInt_mul, t]
      exact Int.bmod_eq_of_le (by omega) (by omega)
    rw [e, i_add (by omega) (by omega) (by omega) (by omega), m1]
    omega
/-- what a good part tells -/
theorem part_PL {T : Nat → Int32} {n i : Nat} (h : prO T n i) : PL (cod T n i) (pa T n i) (prS T n i) ∧ prF T n i = nI (pa T n i) := by
  have c0 : (0 : Int32).toInt = 0 := rfl
  have c6 : (6 : Int32).toInt = 6 := rfl
  have c7 : (7 : Int32).toInt = 7 := rfl
  unfold prO at h
  unfold pa
  rcases rdL_cases (cod T n i) with c | c | c | c | c
  · exact absurd (po0 c) h
  · have hF : ¬ fgv T n 0 7 (i + 1) = -1000 := fun q => h (po2b c q)
    rw [po2a c hF] at h
    have v := fg_val dg7 hF
    rw [pf2 c] at v
    have w := am_val h
    rw [ps2a c hF] at w
    have a8 : (prF T n i).toNatClampNeg < 8 := by
      have := clamp_le (x := prF T n i) (n := 7) (by omega) (by omega) (by decide)
      omega
    refine ⟨?_, nI_back (by omega)⟩
    rcases rdL_2 c with e | e
    · exact Or.inl ⟨e, a8, w.1, w.2⟩
    · exact Or.inr (Or.inl ⟨e, a8, w.1, w.2⟩)
  · rw [po3 c] at h
    have v := fg_val dg7 h
    rw [pf3 c] at v
    have a8 : (prF T n i).toNatClampNeg < 8 := by
      have := clamp_le (x := prF T n i) (n := 7) (by omega) (by omega) (by decide)
      omega
    refine ⟨?_, nI_back (by omega)⟩
    rcases rdL_3 c with e | e | e
    · exact Or.inr (Or.inr (Or.inl ⟨e, a8⟩))
    · exact Or.inr (Or.inr (Or.inr (Or.inl ⟨e, a8⟩)))
    · exact Or.inr (Or.inr (Or.inr (Or.inr (Or.inr (Or.inl ⟨e, a8⟩)))))
  · rw [po4 c] at h
    have v := fg_val dg6 h
    rw [pf4 c] at v
    have a7 : (prF T n i).toNatClampNeg < 7 := by
      have := clamp_le (x := prF T n i) (n := 6) (by omega) (by omega) (by decide)
      omega
    exact ⟨Or.inr (Or.inr (Or.inr (Or.inr (Or.inl ⟨rdL_4 c, a7⟩)))), nI_back (by omega)⟩
  · rw [po5 c] at h
    have v := am_val h
    rw [pf5 c] at v
    have a1 := clamp_le (x := prF T n i) (n := 99) (by omega) (by omega) (by decide)
    have a2 := clamp_ge (x := prF T n i) (n := 1) (by omega)
    exact ⟨Or.inr (Or.inr (Or.inr (Or.inr (Or.inr (Or.inr ⟨rdL_5 c, a2, a1⟩))))), nI_back (by omega)⟩
/-- in complete work each part is good, and ';' or the end stands behind it -/
theorem whole_part {T : Nat → Int32} {n i : Nat} (hc : rdS T n = 6 ∨ rdS T n = 7) (hi : i < n) (h1 : rdS T i = 1) : prO T n i ∧ (prP T n i < n → cod T n (prP T n i) = 59) := by
  by_cases h : prO T n i
  · refine ⟨h, fun hp => ?_⟩
    obtain ⟨-, -, k⟩ := part_ok h1 h
    by_cases c : cod T n (prP T n i) = 59
    · exact c
    · have e := rd_end0 hp (semi_n k c hp)
      rw [e] at hc
      exact absurd hc (by decide)
  · exfalso
    obtain ⟨k1, k2, k3⟩ := part_no h1 (by omega) h
    rcases Nat.lt_or_ge (prP T n i) n with w | w
    · rw [rd_end0 w (k3 w)] at hc
      exact absurd hc (by decide)
    · rw [show prP T n i = n by omega] at k2
      omega
theorem n_pos {T : Nat → Int32} {n : Nat} (hc : rdS T n = 6 ∨ rdS T n = 7) : 0 < n := by
  cases n with
  | zero => exact absurd hc (by show ¬ ((1 : Nat) = 6 ∨ (1 : Nat) = 7); decide)
  | succ n => exact Nat.succ_pos n
theorem rsn_z {S : Nat → Nat → Int32} {c : Int32} {a : Nat} {y : Int32} (h : rsn S c a y ≤ 0) : rsn S c a y = 0 := by
  unfold rsn at h ⊢
  by_cases c1 : c = 102
  · rw [if_pos c1] at h ⊢; exact wn0_z h
  · rw [if_neg c1] at h ⊢
    by_cases c2 : c = 118
    · rw [if_pos c2] at h ⊢; exact wn1_z h
    · rw [if_neg c2] at h ⊢
      by_cases c3 : c = 100
      · rw [if_pos c3] at h ⊢; exact wn2_z h
      · rw [if_neg c3] at h ⊢
        by_cases c4 : c = 112
        · rw [if_pos c4] at h ⊢; exact wn3_z h
        · rw [if_neg c4] at h ⊢
          by_cases c5 : c = 99
          · rw [if_pos c5] at h ⊢; exact wn5_z h
          · rw [if_neg c5]
theorem rsn_y (S : Nat → Nat → Int32) {c : Int32} (a : Nat) (x y : Int32) (h1 : ¬ c = 102) (h2 : ¬ c = 118) : rsn S c a y = rsn S c a x := by
  unfold rsn
  rw [if_neg h1, if_neg h2, if_neg h1, if_neg h2]
theorem nxt_y (S : Nat → Nat → Int32) {c : Int32} (a : Nat) (x y : Int32) (h1 : ¬ c = 102) (h2 : ¬ c = 118) : nxt S c a y = nxt S c a x := by
  unfold nxt
  rw [if_neg h1, if_neg h2, if_neg h1, if_neg h2]
theorem PL_sd {c : Int32} {a : Nat} {x y : Int32} (h : PL c a x) (e : rdL c = 2 → y = x) : PL c a y ∧ (∀ S, rsn S c a y = rsn S c a x) ∧ ∀ S, nxt S c a y = nxt S c a x := by
  rcases h with ⟨rfl, h1⟩ | ⟨rfl, h1⟩ | ⟨rfl, h1⟩ | ⟨rfl, h1⟩ | ⟨rfl, h1⟩ | ⟨rfl, h1⟩ | ⟨rfl, h1⟩
  · have k := e rfl
    subst k
    exact ⟨Or.inl ⟨rfl, h1⟩, fun _ => rfl, fun _ => rfl⟩
  · have k := e rfl
    subst k
    exact ⟨Or.inr (Or.inl ⟨rfl, h1⟩), fun _ => rfl, fun _ => rfl⟩
  · exact ⟨Or.inr (Or.inr (Or.inl ⟨rfl, h1⟩)), fun S => rsn_y S a x y (by decide) (by decide), fun S => nxt_y S a x y (by decide) (by decide)⟩
  · exact ⟨Or.inr (Or.inr (Or.inr (Or.inl ⟨rfl, h1⟩))), fun S => rsn_y S a x y (by decide) (by decide), fun S => nxt_y S a x y (by decide) (by decide)⟩
  · exact ⟨Or.inr (Or.inr (Or.inr (Or.inr (Or.inl ⟨rfl, h1⟩)))), fun S => rsn_y S a x y (by decide) (by decide), fun S => nxt_y S a x y (by decide) (by decide)⟩
  · exact ⟨Or.inr (Or.inr (Or.inr (Or.inr (Or.inr (Or.inl ⟨rfl, h1⟩))))), fun S => rsn_y S a x y (by decide) (by decide), fun S => nxt_y S a x y (by decide) (by decide)⟩
  · exact ⟨Or.inr (Or.inr (Or.inr (Or.inr (Or.inr (Or.inr ⟨rfl, h1⟩))))), fun S => rsn_y S a x y (by decide) (by decide), fun S => nxt_y S a x y (by decide) (by decide)⟩
theorem wkl_u {T : Nat → Int32} {n f i k : Nat} {S : Nat → Nat → Int32} (hf : 1 ≤ f) : wkl T n f i k S = if n ≤ i then (S, k) else if rsn S (cod T n i) (pa T n i) (prS T n i) = 0 then (if prP T n i < n then wkl T n (f - 1) (prP T n i + 1) (k + 1) (nxt S (cod T n i) (pa T n i) (prS T n i)) else (nxt S (cod T n i) (pa T n i) (prS T n i), k + 1)) else (stp S k (rsn S (cod T n i) (pa T n i) (prS T n i)), k) := by
  obtain ⟨g, rfl⟩ : ∃ g, f = g + 1 := ⟨f - 1, by omega⟩
  rfl
theorem wkl_n (T : Nat → Int32) (n f k : Nat) (S : Nat → Nat → Int32) : wkl T n f n k S = (S, k) := by
  cases f with
  | zero => rfl
  | succ g => rw [wkl_u (by omega), if_pos (Nat.le_refl n)]
/-- at the loop's head: what is still to be done gives what the whole gives; or it has stopped -/
def wkI (T : Nat → Int32) (n : Nat) (S : Nat → Nat → Int32) (f i k : Nat) (W : Nat → Nat → Int32) : Prop := (W 12 6 = -1000 ∧ (i = n ∨ rdS T i = 1) ∧ n < i + f ∧ wkl T n f i k W = wkT T n S) ∨ (¬ W 12 6 = -1000 ∧ (W, k) = wkT T n S)
theorem wk_0 (T : Nat → Int32) (n : Nat) (S : Nat → Nat → Int32) : wkI T n S (n + 1) 0 0 (clr S) := Or.inl ⟨clr_6 S, Or.inr rfl, by omega, rfl⟩
theorem wk_e1 {T : Nat → Int32} {n : Nat} {S : Nat → Nat → Int32} {f i k : Nat} {W : Nat → Nat → Int32} (h : wkI T n S f i k W) (c : ¬ W 12 6 = -1000) : (W, k) = wkT T n S := by
  rcases h with ⟨h1, -⟩ | ⟨-, h2⟩
  · exact absurd h1 c
  · exact h2
theorem wk_i {T : Nat → Int32} {n : Nat} {S : Nat → Nat → Int32} {f i k : Nat} {W : Nat → Nat → Int32} (h : wkI T n S f i k W) (c : W 12 6 = -1000) : (i = n ∨ rdS T i = 1) ∧ n < i + f ∧ wkl T n f i k W = wkT T n S := by
  rcases h with ⟨-, h2⟩ | ⟨h1, -⟩
  · exact h2
  · exact absurd c h1
theorem pro_lt {T : Nat → Int32} {n i : Nat} (h : prO T n i) : i < n := rdL_lt2 (T := T) (fun c => h (po0 c))
theorem wk_e2 {T : Nat → Int32} {n : Nat} {S : Nat → Nat → Int32} {f i k : Nat} {W : Nat → Nat → Int32} (h : wkI T n S f i k W) (hin : i ≤ n) (hc : rdS T n = 6 ∨ rdS T n = 7) (c : W 12 6 = -1000) (d : ¬ prO T n i) : (W, k) = wkT T n S := by
  obtain ⟨h1, h2, h3⟩ := wk_i h c
  have e : i = n := by
    rcases h1 with h1 | h1
    · exact h1
    · rcases Nat.lt_or_ge i n with w | w
      · exact absurd (whole_part hc w h1).1 d
      · omega
  subst e
  rw [wkl_n] at h3
  exact h3
theorem wk_rd {T : Nat → Int32} {n : Nat} {S : Nat → Nat → Int32} {f i k : Nat} {W : Nat → Nat → Int32} (h : wkI T n S f i k W) (c : W 12 6 = -1000) (d : prO T n i) : rdS T i = 1 ∧ 1 ≤ f := by
  obtain ⟨h1, h2, h3⟩ := wk_i h c
  have hi := pro_lt d
  rcases h1 with h1 | h1
  · omega
  · exact ⟨h1, by omega⟩
theorem wk_stop {T : Nat → Int32} {n : Nat} {S : Nat → Nat → Int32} {f i k : Nat} {W : Nat → Nat → Int32} (h : wkI T n S f i k W) (c : W 12 6 = -1000) (d : prO T n i) (r : ¬ rsn W (cod T n i) (pa T n i) (prS T n i) = 0) (hk : k < 1000) (i' f' : Nat) : wkI T n S f' i' k (stp W k (rsn W (cod T n i) (pa T n i) (prS T n i))) := by
  obtain ⟨h1, h2, h3⟩ := wk_i h c
  have hi := pro_lt d
  rw [wkl_u (by omega), if_neg (by omega), if_neg r] at h3
  refine Or.inr ⟨?_, h3⟩
  have e : stp W k (rsn W (cod T n i) (pa T n i) (prS T n i)) 12 6 = nI k := stp_6 _ _ _
  rw [e]
  exact nI_n1000 (by omega)
theorem wk_go {T : Nat → Int32} {n : Nat} {S : Nat → Nat → Int32} {f i k : Nat} {W : Nat → Nat → Int32} (h : wkI T n S f i k W) (c : W 12 6 = -1000) (hc : rdS T n = 6 ∨ rdS T n = 7) (d : prO T n i) (r : rsn W (cod T n i) (pa T n i) (prS T n i) = 0) : wkI T n S (f - 1) (tkp T n (prP T n i) 59) (k + 1) (nxt W (cod T n i) (pa T n i) (prS T n i)) := by
  obtain ⟨h1, h2, h3⟩ := wk_i h c
  obtain ⟨hr, hf⟩ := wk_rd h c d
  have hi := pro_lt d
  obtain ⟨hpn, hpi, hpe⟩ := part_ok hr d
  have hp := (part_PL d).1
  rw [wkl_u hf, if_neg (by omega), if_pos r] at h3
  rcases Nat.lt_or_ge (prP T n i) n with w | w
  · have e := (whole_part hc hi hr).2 w
    rw [if_pos w] at h3
    rw [tkp_y e]
    exact Or.inl ⟨(nxt_67 hp).trans c, Or.inr (semi_y hpe e).2, by omega, h3⟩
  · have e : prP T n i = n := by omega
    rw [if_neg (by omega)] at h3
    have e2 : tkp T n (prP T n i) 59 = n := by
      rw [e]
      refine tkp_n (fun q => ?_)
      have := cod_lt q (by decide)
      omega
    rw [e2]
    exact Or.inl ⟨(nxt_67 hp).trans c, Or.inl rfl, by omega, by rw [wkl_n]; exact h3⟩
theorem tk_le {T : Nat → Int32} {n p : Nat} (h : p ≤ n) : tkp T n p 59 ≤ n := by
  by_cases c : cod T n p = 59
  · have := cod_lt c (by decide)
    rw [tkp_y c]
    omega
  · rw [tkp_n c]; exact h
theorem wk_r {W : Nat → Nat → Int32} {k : Nat} {X : (Nat → Nat → Int32) × Nat} (h : (W, k) = X) : X.1 = W ∧ X.2 = k := by
  rw [← h]
  exact ⟨rfl, rfl⟩
theorem u2_67 (S : Nat → Nat → Int32) (x y : Int32) : u2 (u2 S 12 6 x) 12 7 y = uR S 12 (upd (upd (S 12) 6 x) 7 y) := by
  unfold u2
  rw [uR_s]
  funext j
  by_cases h : j = 12
  · subst h; rw [uR_s, uR_s]
  · rw [uR_n _ _ h, uR_n _ _ h, uR_n _ _ h]
theorem clr_e (S : Nat → Nat → Int32) : u2 (u2 S 12 6 (-1000)) 12 7 (-1000) = clr S := u2_67 S _ _
theorem stp_e (S : Nat → Nat → Int32) (k : Nat) (r : Int32) : u2 (u2 S 12 6 (nI k)) 12 7 r = stp S k r := u2_67 S _ _

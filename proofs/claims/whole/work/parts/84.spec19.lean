/-! the class' work: its numbers and the ends of its parts -/
theorem nmb_1 (T : Nat → Int32) (n s : Nat) : nmb T n s 1 = cod T n s - 48 := by
  show 10 * 0 + cod T n (s + 0) - 48 = cod T n s - 48
  rw [show (10 * 0 : Int32) = 0 by decide, Int32.zero_add, Nat.add_zero]
theorem nmb_2 (T : Nat → Int32) (n s : Nat) : nmb T n s 2 = 10 * (cod T n s - 48) + (cod T n (s + 1) - 48) := by
  show 10 * nmb T n s 1 + cod T n (s + 1) - 48 = _
  rw [nmb_1, Int32.sub_eq_add_neg, Int32.add_assoc, ← Int32.sub_eq_add_neg]
theorem inR_59 {x : Int32} {lo hi : Int32} (d : dg lo hi) (h : inR x (48 + lo) (48 + hi)) : ¬ x = 59 := by
  intro q
  have b := dg_in d h
  have e : x.toInt = 59 := by rw [q]; rfl
  omega
theorem am_nmb {T : Nat → Int32} {n j : Nat} (h : ¬ amv T n j = -1000) : ∃ d, (d = 1 ∨ d = 2) ∧ amp T n j = j + d ∧ nmb T n j d = amv T n j ∧ ∀ k, j ≤ k → k < j + d → ¬ cod T n k = 59 := by
  have c : ¬ fgv T n 1 9 j = -1000 := fun q => h (if_pos q)
  have k1 := fgv_ok c
  have f1 := fgv_y k1
  by_cases c2 : fgv T n 0 9 (fgp T n 1 9 j) = -1000
  · refine ⟨1, Or.inl rfl, ?_, ?_, ?_⟩
    · have e : amp T n j = fgp T n 0 9 (fgp T n 1 9 j) := if_neg c
      have g : fgp T n 0 9 (fgp T n 1 9 j) = fgp T n 1 9 j := by
        by_cases k2 : inR (cod T n (fgp T n 1 9 j)) (48 + 0) (48 + 9)
        · exact absurd ((fgv_y k2).1.symm.trans c2) (dg_ne dg09 k2)
        · exact (fgv_n k2).2
      rw [e, g, f1.2]
    · have e : amv T n j = fgv T n 1 9 j := (if_neg c).trans (if_pos c2)
      rw [e, nmb_1, f1.1]
    · intro k h1 h2
      obtain rfl : k = j := by omega
      exact inR_59 dg19 k1
  · have k2 := fgv_ok c2
    have f2 := fgv_y k2
    refine ⟨2, Or.inr rfl, ?_, ?_, ?_⟩
    · have e : amp T n j = fgp T n 0 9 (fgp T n 1 9 j) := if_neg c
      rw [e, f2.2, f1.2]
    · have e : amv T n j = 10 * fgv T n 1 9 j + fgv T n 0 9 (fgp T n 1 9 j) := (if_neg c).trans (if_neg c2)
      rw [e, nmb_2, f2.1, f1.1, f1.2]
    · intro k h1 h2
      rcases (show k = j ∨ k = j + 1 by omega) with rfl | rfl
      · exact inR_59 dg19 k1
      · rw [f1.2] at k2
        exact inR_59 dg09 k2
/-- a part's end and its numbers, as the class reads them -/
def clsP (T : Nat → Int32) (n p : Nat) : Prop := p + 2 ≤ prP T n p ∧ (∀ k, p ≤ k → k < prP T n p → ¬ cod T n k = 59) ∧
  (rdL (cod T n p) = 5 → nmb T n (p + 1) (prP T n p - (p + 1)) = prF T n p) ∧ (¬ rdL (cod T n p) = 5 → nmb T n (p + 1) 1 = prF T n p) ∧ (rdL (cod T n p) = 2 → nmb T n (p + 2) (prP T n p - (p + 2)) = prS T n p)
theorem let_59 {c : Int32} (h : ¬ rdL c = 0) : ¬ c = 59 := fun q => h (by rw [q]; rfl)
theorem fg_end {T : Nat → Int32} {n p : Nat} {lo hi : Int32} (d : dg lo hi) (h : ¬ fgv T n lo hi (p + 1) = -1000) : fgp T n lo hi (p + 1) = p + 2 ∧ nmb T n (p + 1) 1 = fgv T n lo hi (p + 1) ∧ ¬ cod T n (p + 1) = 59 := by
  have k := fgv_ok h
  exact ⟨(fgv_y k).2, by rw [nmb_1, (fgv_y k).1], inR_59 d k⟩
theorem cls_of {T : Nat → Int32} {n p : Nat} (h : prO T n p) : clsP T n p := by
  unfold prO at h
  unfold clsP
  rcases rdL_cases (cod T n p) with c | c | c | c | c
  · exact absurd (po0 c) h
  · have hF : ¬ fgv T n 0 7 (p + 1) = -1000 := fun q => h (po2b c q)
    rw [po2a c hF] at h
    obtain ⟨e1, e2, e3⟩ := fg_end dg7 hF
    obtain ⟨d, hd, a1, a2, a3⟩ := am_nmb h
    have eP : prP T n p = p + 2 + d := by
      have e : prP T n p = amp T n (fgp T n 0 7 (p + 1)) := by unfold prP; rw [c, if_neg (by decide), if_neg (by decide), if_neg (by decide), if_neg (by decide), if_neg hF]
      rw [e, a1, e1]
    have eS : prS T n p = amv T n (fgp T n 0 7 (p + 1)) := (ps2a c hF).symm
    rw [e1] at a2 a3 eS
    refine ⟨by omega, ?_, fun q => absurd (c.symm.trans q) (by decide), fun _ => by rw [e2, pf2 c], fun _ => by rw [eP, show p + 2 + d - (p + 2) = d by omega, a2, eS]⟩
    intro k h1 h2
    rcases (show k = p ∨ k = p + 1 ∨ p + 2 ≤ k by omega) with rfl | rfl | w
    · exact let_59 (by rw [c]; decide)
    · exact e3
    · exact a3 k w (by omega)
  · rw [po3 c] at h
    obtain ⟨e1, e2, e3⟩ := fg_end dg7 h
    have eP : prP T n p = p + 2 := by
      have e : prP T n p = fgp T n 0 7 (p + 1) := by unfold prP; rw [c, if_neg (by decide), if_neg (by decide), if_pos rfl]
      rw [e, e1]
    refine ⟨by omega, ?_, fun q => absurd (c.symm.trans q) (by decide), fun _ => by rw [e2, pf3 c], fun q => absurd (c.symm.trans q) (by decide)⟩
    intro k h1 h2
    rcases (show k = p ∨ k = p + 1 by omega) with rfl | rfl
    · exact let_59 (by rw [c]; decide)
    · exact e3
  · rw [po4 c] at h
    obtain ⟨e1, e2, e3⟩ := fg_end dg6 h
    have eP : prP T n p = p + 2 := by
      have e : prP T n p = fgp T n 0 6 (p + 1) := by unfold prP; rw [c, if_neg (by decide), if_pos rfl]
      rw [e, e1]
    refine ⟨by omega, ?_, fun q => absurd (c.symm.trans q) (by decide), fun _ => by rw [e2, pf4 c], fun q => absurd (c.symm.trans q) (by decide)⟩
    intro k h1 h2
    rcases (show k = p ∨ k = p + 1 by omega) with rfl | rfl
    · exact let_59 (by rw [c]; decide)
    · exact e3
  · rw [po5 c] at h
    obtain ⟨d, hd, a1, a2, a3⟩ := am_nmb h
    have eP : prP T n p = p + 1 + d := by
      have e : prP T n p = amp T n (p + 1) := by unfold prP; rw [c, if_pos rfl]
      rw [e, a1]
    refine ⟨by omega, ?_, fun _ => by rw [eP, show p + 1 + d - (p + 1) = d by omega, a2, pf5 c], fun q => absurd c q, fun q => absurd (c.symm.trans q) (by decide)⟩
    intro k h1 h2
    rcases (show k = p ∨ p + 1 ≤ k by omega) with rfl | w
    · exact let_59 (by rw [c]; decide)
    · exact a3 k w (by omega)
/-- a part's deed, if there is no reason against it -/
def atX (S : Nat → Nat → Int32) (c : Int32) (a : Nat) (y : Int32) : Nat → Nat → Int32 := atW (rsn S c a y) S (nxt S c a y)
theorem atX_y {S : Nat → Nat → Int32} {c : Int32} {a : Nat} {y : Int32} (h : rsn S c a y = 0) : atX S c a y = nxt S c a y := if_pos h
theorem atX_n {S : Nat → Nat → Int32} {c : Int32} {a : Nat} {y : Int32} (h : ¬ rsn S c a y = 0) : atX S c a y = S := if_neg h
theorem rsn_102 (S : Nat → Nat → Int32) (a : Nat) (y : Int32) : wn0 S a y = rsn S 102 a y := by unfold rsn; rw [if_pos rfl]
theorem rsn_118 (S : Nat → Nat → Int32) (a : Nat) (y : Int32) : wn1 S a y = rsn S 118 a y := by unfold rsn; rw [if_neg (by decide), if_pos rfl]
theorem rsn_100 (S : Nat → Nat → Int32) (a : Nat) (y : Int32) : wn2 S a = rsn S 100 a y := by unfold rsn; rw [if_neg (by decide), if_neg (by decide), if_pos rfl]
theorem rsn_112 (S : Nat → Nat → Int32) (a : Nat) (y : Int32) : wn3 S a = rsn S 112 a y := by unfold rsn; rw [if_neg (by decide), if_neg (by decide), if_neg (by decide), if_pos rfl]
theorem rsn_99 (S : Nat → Nat → Int32) (a : Nat) (y : Int32) : wn5 S a = rsn S 99 a y := by unfold rsn; rw [if_neg (by decide), if_neg (by decide), if_neg (by decide), if_neg (by decide), if_pos rfl]
theorem rsn_110 (S : Nat → Nat → Int32) (a : Nat) (y : Int32) : 0 = rsn S 110 a y := by unfold rsn; rw [if_neg (by decide), if_neg (by decide), if_neg (by decide), if_neg (by decide), if_neg (by decide)]
theorem rsn_104 (S : Nat → Nat → Int32) (a : Nat) (y : Int32) : 0 = rsn S 104 a y := by unfold rsn; rw [if_neg (by decide), if_neg (by decide), if_neg (by decide), if_neg (by decide), if_neg (by decide)]
theorem atX_102 (S : Nat → Nat → Int32) (a : Nat) (y : Int32) : atF S a y = atX S 102 a y := by unfold atX nxt; rw [← rsn_102, if_pos rfl]
theorem atX_118 (S : Nat → Nat → Int32) (a : Nat) (y : Int32) : atV S a y = atX S 118 a y := by unfold atX nxt; rw [← rsn_118, if_neg (by decide), if_pos rfl]
theorem atX_100 (S : Nat → Nat → Int32) (a : Nat) (y : Int32) : atD S a = atX S 100 a y := by unfold atX nxt; rw [← rsn_100, if_neg (by decide), if_neg (by decide), if_pos rfl]
theorem atX_112 (S : Nat → Nat → Int32) (a : Nat) (y : Int32) : atP S a = atX S 112 a y := by unfold atX nxt; rw [← rsn_112, if_neg (by decide), if_neg (by decide), if_neg (by decide), if_pos rfl]
theorem atX_99 (S : Nat → Nat → Int32) (a : Nat) (y : Int32) : atC S a = atX S 99 a y := by unfold atX nxt; rw [← rsn_99, if_neg (by decide), if_neg (by decide), if_neg (by decide), if_neg (by decide), if_pos rfl]
theorem atX_110 (S : Nat → Nat → Int32) (a : Nat) (y : Int32) : notS S (cy S) a = atX S 110 a y := by rw [atX_y (rsn_110 S a y).symm]; unfold nxt; rw [if_neg (by decide), if_neg (by decide), if_neg (by decide), if_neg (by decide), if_neg (by decide), if_pos rfl]
theorem atX_104 (S : Nat → Nat → Int32) (a : Nat) (y : Int32) : hrs S a = atX S 104 a y := by rw [atX_y (rsn_104 S a y).symm]; unfold nxt; rw [if_neg (by decide), if_neg (by decide), if_neg (by decide), if_neg (by decide), if_neg (by decide), if_neg (by decide)]
/-- at the head of the class' loop: in a part, behind the last one, or stopped -/
def wkC (T : Nat → Int32) (n : Nat) (S : Nat → Nat → Int32) (f p i k : Nat) (X : Nat → Nat → Int32) : Prop :=
  (X 12 6 = -1000 ∧ (p < n ∧ rdS T p = 1 ∧ p ≤ i ∧ i ≤ prP T n p) ∧ n < p + f ∧ wkl T n f p k X = wkT T n S) ∨ (X 12 6 = -1000 ∧ i = n + 1 ∧ (X, k) = wkT T n S) ∨ (¬ X 12 6 = -1000 ∧ (X, k) = wkT T n S)
theorem wc_0 {T : Nat → Int32} {n : Nat} (S : Nat → Nat → Int32) (hc : rdS T n = 6 ∨ rdS T n = 7) : wkC T n S (n + 1) 0 0 0 (clr S) := Or.inl ⟨clr_6 S, ⟨n_pos hc, rfl, Nat.le_refl _, Nat.zero_le _⟩, by omega, rfl⟩
theorem wc_in {T : Nat → Int32} {n : Nat} {S : Nat → Nat → Int32} {f p i k : Nat} {X : Nat → Nat → Int32} (h : wkC T n S f p i k X) (hi : i ≤ n) (c : X 12 6 = -1000) : (p < n ∧ rdS T p = 1 ∧ p ≤ i ∧ i ≤ prP T n p) ∧ n < p + f ∧ wkl T n f p k X = wkT T n S := by
  rcases h with ⟨-, h⟩ | ⟨-, h, -⟩ | ⟨h, -⟩
  · exact h
  · omega
  · exact absurd c h
theorem wc_e {T : Nat → Int32} {n : Nat} {S : Nat → Nat → Int32} {f p i k : Nat} {X : Nat → Nat → Int32} (h : wkC T n S f p i k X) (hc : rdS T n = 6 ∨ rdS T n = 7) (c : ¬ X 12 6 = -1000 ∨ n < i) : (X, k) = wkT T n S := by
  rcases h with ⟨h1, ⟨h2, h3, h4, h5⟩, -⟩ | ⟨-, -, h⟩ | ⟨-, h⟩
  · rcases c with c | c
    · exact absurd h1 c
    · have := (part_ok h3 (whole_part hc h2 h3).1).1
      omega
  · exact h
  · exact h
theorem wc_mid {T : Nat → Int32} {n : Nat} {S : Nat → Nat → Int32} {f p i k : Nat} {X : Nat → Nat → Int32} (h : wkC T n S f p i k X) (hc : rdS T n = 6 ∨ rdS T n = 7) (hi : i ≤ n) (c : X 12 6 = -1000) (e : ¬ (i = n ∨ cod T n i = 59)) : wkC T n S f p (i + 1) k X := by
  obtain ⟨⟨h2, h3, h4, h5⟩, h6, h7⟩ := wc_in h hi c
  refine Or.inl ⟨c, ⟨h2, h3, by omega, ?_⟩, h6, h7⟩
  rcases Nat.lt_or_ge i (prP T n p) with w | w
  · omega
  · exfalso
    have q : i = prP T n p := by omega
    have g := (whole_part hc h2 h3).2
    rw [← q] at g
    exact e (Or.inr (g (by omega)))
theorem wc_end {T : Nat → Int32} {n : Nat} {S : Nat → Nat → Int32} {f p i k : Nat} {X : Nat → Nat → Int32} (h : wkC T n S f p i k X) (hc : rdS T n = 6 ∨ rdS T n = 7) (hi : i ≤ n) (c : X 12 6 = -1000) (e : i = n ∨ cod T n i = 59) : prO T n p ∧ clsP T n p ∧ i = prP T n p ∧ p < n ∧ 1 ≤ f := by
  obtain ⟨⟨h2, h3, h4, h5⟩, h6, h7⟩ := wc_in h hi c
  have o := (whole_part hc h2 h3).1
  have g := cls_of o
  have b := (part_ok h3 o).1
  refine ⟨o, g, ?_, h2, by omega⟩
  rcases Nat.lt_or_ge i (prP T n p) with w | w
  · rcases e with e | e
    · omega
    · exact absurd e (g.2.1 i h4 w)
  · omega
theorem wc_stop {T : Nat → Int32} {n : Nat} {S : Nat → Nat → Int32} {f p i k : Nat} {X : Nat → Nat → Int32} (h : wkC T n S f p i k X) (hc : rdS T n = 6 ∨ rdS T n = 7) (hi : i ≤ n) (c : X 12 6 = -1000) (e : i = n ∨ cod T n i = 59) (r : ¬ rsn X (cod T n p) (pa T n p) (prS T n p) = 0) (hk : k < 1000) (f' p' i' : Nat) : wkC T n S f' p' i' k (stp X k (rsn X (cod T n p) (pa T n p) (prS T n p))) := by
  obtain ⟨⟨h2, h3, h4, h5⟩, h6, h7⟩ := wc_in h hi c
  rw [wkl_u (by omega), if_neg (by omega), if_neg r] at h7
  refine Or.inr (Or.inr ⟨?_, h7⟩)
  rw [stp_6]
  exact nI_n1000 (by omega)
theorem wc_go {T : Nat → Int32} {n : Nat} {S : Nat → Nat → Int32} {f p i k : Nat} {X : Nat → Nat → Int32} (h : wkC T n S f p i k X) (hc : rdS T n = 6 ∨ rdS T n = 7) (hi : i ≤ n) (c : X 12 6 = -1000) (e : i = n ∨ cod T n i = 59) (r : rsn X (cod T n p) (pa T n p) (prS T n p) = 0) : wkC T n S (f - 1) (i + 1) (i + 1) (k + 1) (nxt X (cod T n p) (pa T n p) (prS T n p)) := by
  obtain ⟨⟨h2, h3, h4, h5⟩, h6, h7⟩ := wc_in h hi c
  obtain ⟨o, g, hp, -, hf⟩ := wc_end h hc hi c e
  have hpl := (part_PL o).1
  obtain ⟨hpn, hpi, hpe⟩ := part_ok h3 o
  rw [wkl_u (by omega), if_neg (by omega), if_pos r] at h7
  rcases Nat.lt_or_ge (prP T n p) n with w | w
  · have e9 := (whole_part hc h2 h3).2 w
    have s := (semi_y hpe e9).2
    rw [if_pos w] at h7
    rw [← hp] at s h7
    have ne : ¬ i + 1 = n := fun q => by rw [q] at s; omega
    have o2 := (whole_part hc (by omega : i + 1 < n) s).1
    have g2 := (part_ok s o2).2.1
    exact Or.inl ⟨(nxt_67 hpl).trans c, ⟨by omega, s, Nat.le_refl _, by omega⟩, by omega, h7⟩
  · rw [if_neg (by omega)] at h7
    exact Or.inr (Or.inl ⟨(nxt_67 hpl).trans c, by omega, h7⟩)

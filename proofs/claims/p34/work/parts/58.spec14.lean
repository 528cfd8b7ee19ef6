/-! reading a text as the reference does -/
def fgv (T : Nat → Int32) (n : Nat) (lo hi : Int32) (i : Nat) : Int32 := if inR (cod T n i) (48 + lo) (48 + hi) then cod T n i - 48 else -1000
def fgp (T : Nat → Int32) (n : Nat) (lo hi : Int32) (i : Nat) : Nat := if inR (cod T n i) (48 + lo) (48 + hi) then i + 1 else i
def tkp (T : Nat → Int32) (n i : Nat) (x : Int32) : Nat := if cod T n i = x then i + 1 else i
def amv (T : Nat → Int32) (n i : Nat) : Int32 := if fgv T n 1 9 i = -1000 then -1000 else if fgv T n 0 9 (fgp T n 1 9 i) = -1000 then fgv T n 1 9 i else 10 * fgv T n 1 9 i + fgv T n 0 9 (fgp T n 1 9 i)
def amp (T : Nat → Int32) (n i : Nat) : Nat := if fgv T n 1 9 i = -1000 then fgp T n 1 9 i else fgp T n 0 9 (fgp T n 1 9 i)
def prF (T : Nat → Int32) (n i : Nat) : Int32 := if rdL (cod T n i) = 5 then amv T n (i + 1) else if rdL (cod T n i) = 4 then fgv T n 0 6 (i + 1) else if rdL (cod T n i) = 0 then -1000 else fgv T n 0 7 (i + 1)
def prS (T : Nat → Int32) (n i : Nat) : Int32 := if prF T n i = -1000 then -1000 else amv T n (fgp T n 0 7 (i + 1))
def prP (T : Nat → Int32) (n i : Nat) : Nat := if rdL (cod T n i) = 5 then amp T n (i + 1) else if rdL (cod T n i) = 4 then fgp T n 0 6 (i + 1) else if rdL (cod T n i) = 3 then fgp T n 0 7 (i + 1) else if rdL (cod T n i) = 0 then i else if fgv T n 0 7 (i + 1) = -1000 then fgp T n 0 7 (i + 1) else amp T n (fgp T n 0 7 (i + 1))
abbrev prO (T : Nat → Int32) (n i : Nat) : Prop := ¬ (if rdL (cod T n i) < 3 then prS T n i else prF T n i) = -1000
theorem cod_lt {T : Nat → Int32} {n i : Nat} {x : Int32} (h : cod T n i = x) (hx : ¬ x = 0) : i < n := by
  unfold cod at h
  by_cases c : i < n
  · exact c
  · rw [if_neg c] at h; exact absurd h.symm hx
theorem cod_T {T : Nat → Int32} {n i : Nat} (h : i < n) : cod T n i = T i := if_pos h
theorem tkp_y {T : Nat → Int32} {n i : Nat} {x : Int32} (h : cod T n i = x) : tkp T n i x = i + 1 := if_pos h
theorem tkp_n {T : Nat → Int32} {n i : Nat} {x : Int32} (h : ¬ cod T n i = x) : tkp T n i x = i := if_neg h
/-- the digits' bounds -/
abbrev dg (lo hi : Int32) : Prop := (lo = 0 ∨ lo = 1) ∧ (hi = 6 ∨ hi = 7 ∨ hi = 9)
theorem dg_in {c lo hi : Int32} (h : dg lo hi) (k : inR c (48 + lo) (48 + hi)) : 48 ≤ c.toInt ∧ c.toInt ≤ 57 := by
  obtain ⟨h1, h2⟩ := h
  have k1 := (inR_int k).1
  have k2 := (inR_int k).2
  have a0 : (48 + 0 : Int32).toInt = 48 := by decide
  have a1 : (48 + 1 : Int32).toInt = 49 := by decide
  have b6 : (48 + 6 : Int32).toInt = 54 := by decide
  have b7 : (48 + 7 : Int32).toInt = 55 := by decide
  have b9 : (48 + 9 : Int32).toInt = 57 := by decide
  rcases h1 with rfl | rfl <;> rcases h2 with rfl | rfl | rfl <;> omega
theorem dg_ne {c lo hi : Int32} (h : dg lo hi) (k : inR c (48 + lo) (48 + hi)) : ¬ c - 48 = -1000 := by
  have b := dg_in h k
  have e : (48 : Int32).toInt = 48 := rfl
  have s : (c - 48).toInt = c.toInt - 48 := by rw [i_sub (by omega) (by omega) (by omega) (by omega), e]
  intro q
  have q2 := congrArg Int32.toInt q
  have z : (-1000 : Int32).toInt = -1000 := rfl
  omega
theorem fgv_y {T : Nat → Int32} {n i : Nat} {lo hi : Int32} (k : inR (cod T n i) (48 + lo) (48 + hi)) : fgv T n lo hi i = cod T n i - 48 ∧ fgp T n lo hi i = i + 1 := ⟨if_pos k, if_pos k⟩
theorem fgv_n {T : Nat → Int32} {n i : Nat} {lo hi : Int32} (k : ¬ inR (cod T n i) (48 + lo) (48 + hi)) : fgv T n lo hi i = -1000 ∧ fgp T n lo hi i = i := ⟨if_neg k, if_neg k⟩
theorem fgv_ok {T : Nat → Int32} {n i : Nat} {lo hi : Int32} (h : ¬ fgv T n lo hi i = -1000) : inR (cod T n i) (48 + lo) (48 + hi) := by
  by_cases k : inR (cod T n i) (48 + lo) (48 + hi)
  · exact k
  · exact absurd (fgv_n k).1 h
theorem fgv_no {T : Nat → Int32} {n i : Nat} {lo hi : Int32} (d : dg lo hi) (h : fgv T n lo hi i = -1000) : ¬ inR (cod T n i) (48 + lo) (48 + hi) := fun k => dg_ne d k ((fgv_y k).1.symm.trans h)
theorem dg_lt {T : Nat → Int32} {n i : Nat} {lo hi : Int32} (d : dg lo hi) (k : inR (cod T n i) (48 + lo) (48 + hi)) : i < n := by
  refine cod_lt (T := T) (x := cod T n i) rfl (fun e => ?_)
  have b := dg_in d k
  rw [e] at b
  have z : (0 : Int32).toInt = 0 := rfl
  omega
theorem fgp_le {T : Nat → Int32} {n i : Nat} {lo hi : Int32} (d : dg lo hi) (h : i ≤ n) : fgp T n lo hi i ≤ n := by
  by_cases k : inR (cod T n i) (48 + lo) (48 + hi)
  · have := dg_lt d k
    rw [(fgv_y k).2]
    omega
  · rw [(fgv_n k).2]; exact h
theorem amp_le {T : Nat → Int32} {n i : Nat} (h : i ≤ n) : amp T n i ≤ n := by
  have d1 : dg 1 9 := ⟨Or.inr rfl, Or.inr (Or.inr rfl)⟩
  have d0 : dg 0 9 := ⟨Or.inl rfl, Or.inr (Or.inr rfl)⟩
  unfold amp
  split
  · exact fgp_le d1 h
  · exact fgp_le d0 (fgp_le d1 h)
theorem and_in {x p q : Int32} : inR x p q ↔ p ≤ x ∧ x ≤ q := ⟨fun h => ⟨Int32.not_lt.mp h.1, Int32.not_lt.mp h.2⟩, fun h => ⟨Int32.not_lt.mpr h.1, Int32.not_lt.mpr h.2⟩⟩
theorem rdS_s (T : Nat → Int32) (i : Nat) : rdS T (i + 1) = rdO (rdS T i) (T i) := rfl
/-- a number where one is due -/
theorem am_no {T : Nat → Int32} {n j : Nat} (h5 : rdS T j = 5) (h : amv T n j = -1000) : amp T n j = j ∧ (j < n → rdS T (j + 1) = 0) := by
  have d1 : dg 1 9 := ⟨Or.inr rfl, Or.inr (Or.inr rfl)⟩
  have d0 : dg 0 9 := ⟨Or.inl rfl, Or.inr (Or.inr rfl)⟩
  by_cases c : fgv T n 1 9 j = -1000
  · have k := fgv_no d1 c
    refine ⟨?_, fun hj => ?_⟩
    · unfold amp
      rw [if_pos c, (fgv_n k).2]
    · rw [rdS_s, h5, rdO_5]
      rw [cod_T hj] at k
      exact if_neg (fun q => k (and_in.mpr q))
  · exfalso
    have k := fgv_ok c
    have b := dg_in d1 k
    unfold amv at h
    rw [if_neg c] at h
    split at h
    · exact c h
    · rename_i c2
      have k2 := fgv_ok c2
      have b2 := dg_in d0 k2
      have e : (48 : Int32).toInt = 48 := rfl
      have z : (-1000 : Int32).toInt = -1000 := rfl
      have t : (10 : Int32).toInt = 10 := rfl
      rw [(fgv_y k).1, (fgv_y k2).1] at h
      have s1 : (cod T n j - 48).toInt = (cod T n j).toInt - 48 := by rw [i_sub (by omega) (by omega) (by omega) (by omega), e]
      have s2 : (cod T n (fgp T n 1 9 j) - 48).toInt = (cod T n (fgp T n 1 9 j)).toInt - 48 := by rw [i_sub (by omega) (by omega) (by omega) (by omega), e]
      have m1 : (10 * (cod T n j - 48)).toInt = 10 * ((cod T n j).toInt - 48) := by
        rw [Int32.toInt_mul, t, s1]
        exact Int.bmod_eq_of_le (by omega) (by omega)
      have q2 := congrArg Int32.toInt h
      rw [i_add (by omega) (by omega) (by omega) (by omega)] at q2
      omega
theorem am_ok {T : Nat → Int32} {n j : Nat} (h5 : rdS T j = 5) (h : ¬ amv T n j = -1000) : amp T n j ≤ n ∧ j < amp T n j ∧ (rdS T (amp T n j) = 6 ∧ ¬ inR (cod T n (amp T n j)) 48 57 ∨ rdS T (amp T n j) = 7) := by
  have d1 : dg 1 9 := ⟨Or.inr rfl, Or.inr (Or.inr rfl)⟩
  have d0 : dg 0 9 := ⟨Or.inl rfl, Or.inr (Or.inr rfl)⟩
  have c : ¬ fgv T n 1 9 j = -1000 := fun q => h (if_pos q)
  have k := fgv_ok c
  have hj := dg_lt d1 k
  have e1 : rdS T (j + 1) = 6 := by
    rw [rdS_s, h5, rdO_5]
    rw [cod_T hj] at k
    exact if_pos (and_in.mp k)
  have ep : amp T n j = fgp T n 0 9 (j + 1) := by
    unfold amp
    rw [if_neg c, (fgv_y k).2]
  rw [ep]
  by_cases k2 : inR (cod T n (j + 1)) (48 + 0) (48 + 9)
  · have hj2 := dg_lt d0 k2
    rw [(fgv_y k2).2]
    refine ⟨by omega, by omega, Or.inr ?_⟩
    rw [rdS_s, e1, rdO_6]
    rw [cod_T hj2] at k2
    exact if_pos (and_in.mp k2)
  · rw [(fgv_n k2).2]
    exact ⟨by omega, by omega, Or.inl ⟨e1, k2⟩⟩
theorem rdL_cases (x : Int32) : rdL x = 0 ∨ rdL x = 2 ∨ rdL x = 3 ∨ rdL x = 4 ∨ rdL x = 5 := by
  unfold rdL
  repeat (first | (split) | omega)
theorem rdL_lt2 {T : Nat → Int32} {n i : Nat} (h : ¬ rdL (cod T n i) = 0) : i < n := cod_lt (T := T) (x := cod T n i) rfl (fun e => h (by rw [e]; rfl))
theorem rd_next {T : Nat → Int32} {n i : Nat} (h1 : rdS T i = 1) (hi : i < n) : rdS T (i + 1) = rdL (cod T n i) := by
  rw [rdS_s, h1, cod_T hi]
  rfl
/-- one figure where one is due -/
theorem fg_yes {T : Nat → Int32} {n j q q2 : Nat} {hi : Int32} (d : dg 0 hi) (hq : rdS T j = q) (e : ∀ x, rdO q x = if 48 ≤ x ∧ x ≤ 48 + hi then q2 else 0) (h : ¬ fgv T n 0 hi j = -1000) : j < n ∧ fgp T n 0 hi j = j + 1 ∧ rdS T (j + 1) = q2 := by
  have k := fgv_ok h
  have hj := dg_lt d k
  refine ⟨hj, (fgv_y k).2, ?_⟩
  rw [rdS_s, hq, e]
  rw [cod_T hj] at k
  exact if_pos (and_in.mp k)
theorem fg_not {T : Nat → Int32} {n j q q2 : Nat} {hi : Int32} (d : dg 0 hi) (hq : rdS T j = q) (e : ∀ x, rdO q x = if 48 ≤ x ∧ x ≤ 48 + hi then q2 else 0) (h : fgv T n 0 hi j = -1000) : fgp T n 0 hi j = j ∧ (j < n → rdS T (j + 1) = 0) := by
  have k := fgv_no d h
  refine ⟨(fgv_n k).2, fun hj => ?_⟩
  rw [rdS_s, hq, e]
  rw [cod_T hj] at k
  exact if_neg (fun w => k (and_in.mpr w))
theorem dg6 : dg 0 6 := ⟨Or.inl rfl, Or.inl rfl⟩
theorem dg7 : dg 0 7 := ⟨Or.inl rfl, Or.inr (Or.inl rfl)⟩
theorem part_ok {T : Nat → Int32} {n i : Nat} (h1 : rdS T i = 1) (h : prO T n i) : prP T n i ≤ n ∧ i < prP T n i ∧ (rdS T (prP T n i) = 6 ∧ ¬ inR (cod T n (prP T n i)) 48 57 ∨ rdS T (prP T n i) = 7) := by
  unfold prO at h
  rcases rdL_cases (cod T n i) with c | c | c | c | c
  · exfalso
    rw [c, if_pos (by decide)] at h
    exact h (if_pos (by unfold prF; rw [c]; rfl))
  · have hi := rdL_lt2 (T := T) (n := n) (i := i) (by rw [c]; decide)
    have e2 := rd_next h1 hi
    rw [c] at e2 h
    rw [if_pos (by decide)] at h
    have hf : prF T n i = fgv T n 0 7 (i + 1) := by unfold prF; rw [c]; rfl
    have hF : ¬ fgv T n 0 7 (i + 1) = -1000 := fun q => h (if_pos (hf.trans q))
    obtain ⟨g1, g2, g3⟩ := fg_yes (q2 := 5) dg7 e2 (fun x => rdO_2 x) hF
    have hS : ¬ amv T n (i + 1 + 1) = -1000 := fun q => h (by unfold prS; rw [if_neg (by rw [hf]; exact hF), g2]; exact q)
    have ep : prP T n i = amp T n (i + 1 + 1) := by
      unfold prP
      rw [c, if_neg (by decide), if_neg (by decide), if_neg (by decide), if_neg (by decide), if_neg hF, g2]
    rw [ep]
    obtain ⟨a1, a2, a3⟩ := am_ok (n := n) g3 hS
    exact ⟨a1, by omega, a3⟩
  · have hi := rdL_lt2 (T := T) (n := n) (i := i) (by rw [c]; decide)
    have e2 := rd_next h1 hi
    rw [c] at e2 h
    rw [if_neg (by decide)] at h
    have hf : prF T n i = fgv T n 0 7 (i + 1) := by unfold prF; rw [c]; rfl
    rw [hf] at h
    obtain ⟨g1, g2, g3⟩ := fg_yes (q2 := 7) dg7 e2 (fun x => rdO_3 x) h
    have ep : prP T n i = i + 1 + 1 := by
      unfold prP
      rw [c, if_neg (by decide), if_neg (by decide), if_pos rfl, g2]
    rw [ep]
    exact ⟨by omega, by omega, Or.inr g3⟩
  · have hi := rdL_lt2 (T := T) (n := n) (i := i) (by rw [c]; decide)
    have e2 := rd_next h1 hi
    rw [c] at e2 h
    rw [if_neg (by decide)] at h
    have hf : prF T n i = fgv T n 0 6 (i + 1) := by unfold prF; rw [c]; rfl
    rw [hf] at h
    obtain ⟨g1, g2, g3⟩ := fg_yes (q2 := 7) dg6 e2 (fun x => rdO_4 x) h
    have ep : prP T n i = i + 1 + 1 := by
      unfold prP
      rw [c, if_neg (by decide), if_pos rfl, g2]
    rw [ep]
    exact ⟨by omega, by omega, Or.inr g3⟩
  · have hi := rdL_lt2 (T := T) (n := n) (i := i) (by rw [c]; decide)
    have e2 := rd_next h1 hi
    rw [c] at e2 h
    rw [if_neg (by decide)] at h
    have hf : prF T n i = amv T n (i + 1) := by unfold prF; rw [c]; rfl
    rw [hf] at h
    have ep : prP T n i = amp T n (i + 1) := by
      unfold prP
      rw [c, if_pos rfl]
    rw [ep]
    obtain ⟨a1, a2, a3⟩ := am_ok (n := n) e2 h
    exact ⟨a1, by omega, a3⟩
theorem part_no {T : Nat → Int32} {n i : Nat} (h1 : rdS T i = 1) (hin : i ≤ n) (h : ¬ prO T n i) : prP T n i ≤ n ∧ (1 ≤ rdS T (prP T n i) ∧ rdS T (prP T n i) ≤ 5) ∧ (prP T n i < n → rdS T (prP T n i + 1) = 0) := by
  have h := Decidable.not_not.mp h
  rcases rdL_cases (cod T n i) with c | c | c | c | c
  · have ep : prP T n i = i := by
      unfold prP
      rw [c, if_neg (by decide), if_neg (by decide), if_neg (by decide), if_pos rfl]
    rw [ep, h1]
    exact ⟨hin, by decide, fun q => by rw [rd_next h1 q, c]⟩
  · have hi := rdL_lt2 (T := T) (n := n) (i := i) (by rw [c]; decide)
    have e2 := rd_next h1 hi
    rw [c] at e2 h
    rw [if_pos (by decide)] at h
    have hf : prF T n i = fgv T n 0 7 (i + 1) := by unfold prF; rw [c]; rfl
    by_cases hF : fgv T n 0 7 (i + 1) = -1000
    · obtain ⟨g1, g2⟩ := fg_not (q2 := 5) dg7 e2 (fun x => rdO_2 x) hF
      have ep : prP T n i = i + 1 := by
        unfold prP
        rw [c, if_neg (by decide), if_neg (by decide), if_neg (by decide), if_neg (by decide), if_pos hF, g1]
      rw [ep, e2]
      exact ⟨by omega, by decide, g2⟩
    · obtain ⟨g1, g2, g3⟩ := fg_yes (q2 := 5) dg7 e2 (fun x => rdO_2 x) hF
      have hS : amv T n (i + 1 + 1) = -1000 := by
        unfold prS at h
        rw [if_neg (by rw [hf]; exact hF), g2] at h
        exact h
      have ep : prP T n i = amp T n (i + 1 + 1) := by
        unfold prP
        rw [c, if_neg (by decide), if_neg (by decide), if_neg (by decide), if_neg (by decide), if_neg hF, g2]
      obtain ⟨a1, a2⟩ := am_no (n := n) g3 hS
      rw [ep, a1, g3]
      exact ⟨by omega, by decide, a2⟩
  · have hi := rdL_lt2 (T := T) (n := n) (i := i) (by rw [c]; decide)
    have e2 := rd_next h1 hi
    rw [c] at e2 h
    rw [if_neg (by decide)] at h
    have hf : prF T n i = fgv T n 0 7 (i + 1) := by unfold prF; rw [c]; rfl
    rw [hf] at h
    obtain ⟨g1, g2⟩ := fg_not (q2 := 7) dg7 e2 (fun x => rdO_3 x) h
    have ep : prP T n i = i + 1 := by
      unfold prP
      rw [c, if_neg (by decide), if_neg (by decide), if_pos rfl, g1]
    rw [ep, e2]
    exact ⟨by omega, by decide, g2⟩
  · have hi := rdL_lt2 (T := T) (n := n) (i := i) (by rw [c]; decide)
    have e2 := rd_next h1 hi
    rw [c] at e2 h
    rw [if_neg (by decide)] at h
    have hf : prF T n i = fgv T n 0 6 (i + 1) := by unfold prF; rw [c]; rfl
    rw [hf] at h
    obtain ⟨g1, g2⟩ := fg_not (q2 := 7) dg6 e2 (fun x => rdO_4 x) h
    have ep : prP T n i = i + 1 := by
      unfold prP
      rw [c, if_neg (by decide), if_pos rfl, g1]
    rw [ep, e2]
    exact ⟨by omega, by decide, g2⟩
  · have hi := rdL_lt2 (T := T) (n := n) (i := i) (by rw [c]; decide)
    have e2 := rd_next h1 hi
    rw [c] at e2 h
    rw [if_neg (by decide)] at h
    have hf : prF T n i = amv T n (i + 1) := by unfold prF; rw [c]; rfl
    rw [hf] at h
    have ep : prP T n i = amp T n (i + 1) := by
      unfold prP
      rw [c, if_pos rfl]
    obtain ⟨a1, a2⟩ := am_no (n := n) e2 h
    rw [ep, a1, e2]
    exact ⟨by omega, by decide, a2⟩
/-! the first error -/
theorem rd_0 {T : Nat → Int32} {i : Nat} (h : rdS T i = 0) : ∀ k, rdS T (i + k) = 0
  | 0 => h
  | k + 1 => by
    have e := rd_0 h k
    show rdO (rdS T (i + k)) (T (i + k)) = 0
    rw [e]
    rfl
theorem rd_ne {T : Nat → Int32} {p : Nat} (h : ¬ rdS T p = 0) {k : Nat} (hk : k ≤ p) : ¬ rdS T k = 0 := fun q => h (by
  have e := rd_0 q (p - k)
  rw [show k + (p - k) = p by omega] at e
  exact e)
theorem epk_at {T : Nat → Int32} {n p : Nat} (hp : p ≤ n) (h : ∀ k, k ≤ p → ¬ rdS T k = 0) (h2 : p < n → rdS T (p + 1) = 0) : ∀ (f k : Nat), k + f = n → k ≤ p → epk T f k = p
  | 0, k, hf, hk => by
    show k = p
    omega
  | f + 1, k, hf, hk => by
    show (if rdS T (k + 1) = 0 then k else epk T f (k + 1)) = p
    by_cases c : k = p
    · subst c
      rw [if_pos (h2 (by omega))]
    · rw [if_neg (h (k + 1) (by omega))]
      exact epk_at hp h h2 f (k + 1) (by omega) (by omega)
theorem epl_at {T : Nat → Int32} {n p : Nat} (hp : p ≤ n) (h : ¬ rdS T p = 0) (h2 : p < n → rdS T (p + 1) = 0) : epl T n = p := epk_at hp (fun _ hk => rd_ne h hk) h2 n 0 (by omega) (Nat.zero_le _)
theorem rd_end0 {T : Nat → Int32} {n p : Nat} (hp : p < n) (h : rdS T (p + 1) = 0) : rdS T n = 0 := by
  have e := rd_0 h (n - (p + 1))
  rw [show p + 1 + (n - (p + 1)) = n by omega] at e
  exact e
/-- behind a part: ';' or the end, or an error -/
theorem semi_y {T : Nat → Int32} {n p : Nat} (h : rdS T p = 6 ∧ ¬ inR (cod T n p) 48 57 ∨ rdS T p = 7) (c : cod T n p = 59) : p < n ∧ rdS T (p + 1) = 1 := by
  have hp := cod_lt c (by decide)
  rw [cod_T hp] at c
  refine ⟨hp, ?_⟩
  rw [rdS_s, c]
  rcases h with ⟨h, -⟩ | h
  · rw [h]; rfl
  · rw [h]; rfl
theorem semi_n {T : Nat → Int32} {n p : Nat} (h : rdS T p = 6 ∧ ¬ inR (cod T n p) 48 57 ∨ rdS T p = 7) (c : ¬ cod T n p = 59) (hp : p < n) : rdS T (p + 1) = 0 := by
  rw [cod_T hp] at c h
  rw [rdS_s]
  rcases h with ⟨h, h2⟩ | h
  · rw [h, rdO_6, if_neg (fun q => h2 (and_in.mpr q)), if_neg c]
  · rw [h, rdO_7, if_neg c]
theorem pe_ne {T : Nat → Int32} {n p : Nat} (h : rdS T p = 6 ∧ ¬ inR (cod T n p) 48 57 ∨ rdS T p = 7) : ¬ rdS T p = 0 ∧ (rdS T p = 6 ∨ rdS T p = 7) := by
  rcases h with ⟨h, -⟩ | h
  · rw [h]; exact ⟨by decide, Or.inl rfl⟩
  · rw [h]; exact ⟨by decide, Or.inr rfl⟩
theorem dg19 : dg 1 9 := ⟨Or.inr rfl, Or.inr (Or.inr rfl)⟩
theorem dg09 : dg 0 9 := ⟨Or.inl rfl, Or.inr (Or.inr rfl)⟩
theorem rdL_none {x : Int32} (h1 : ¬ x = 104) (h2 : ¬ x = 99) (h3 : ¬ x = 100) (h4 : ¬ x = 112) (h5 : ¬ x = 110) (h6 : ¬ x = 102) (h7 : ¬ x = 118) : rdL x = 0 := by
  unfold rdL
  rw [if_neg (fun q => q.elim h6 h7), if_neg (fun q => q.elim h3 (fun q => q.elim h4 h5)), if_neg h2, if_neg h1]
theorem pro_y {T : Nat → Int32} {n i : Nat} (h : prO T n i) : 1 = b1 (prO T n i) := (if_pos h).symm
theorem pro_n {T : Nat → Int32} {n i : Nat} (h : ¬ prO T n i) : 0 = b1 (prO T n i) := (if_neg h).symm
theorem pf5 {T : Nat → Int32} {n i : Nat} (c : rdL (cod T n i) = 5) : amv T n (i + 1) = prF T n i := by unfold prF; rw [c]; rfl
theorem pf4 {T : Nat → Int32} {n i : Nat} (c : rdL (cod T n i) = 4) : fgv T n 0 6 (i + 1) = prF T n i := by unfold prF; rw [c]; rfl
theorem pf3 {T : Nat → Int32} {n i : Nat} (c : rdL (cod T n i) = 3) : fgv T n 0 7 (i + 1) = prF T n i := by unfold prF; rw [c]; rfl
theorem pf2 {T : Nat → Int32} {n i : Nat} (c : rdL (cod T n i) = 2) : fgv T n 0 7 (i + 1) = prF T n i := by unfold prF; rw [c]; rfl
theorem pf0 {T : Nat → Int32} {n i : Nat} (c : rdL (cod T n i) = 0) : (-1000) = prF T n i := by unfold prF; rw [c]; rfl
theorem ps2b {T : Nat → Int32} {n i : Nat} (c : rdL (cod T n i) = 2) (d : fgv T n 0 7 (i + 1) = -1000) : (-1000) = prS T n i := by unfold prS; rw [if_pos ((pf2 c).symm.trans d)]
theorem ps2a {T : Nat → Int32} {n i : Nat} (c : rdL (cod T n i) = 2) (d : ¬ fgv T n 0 7 (i + 1) = -1000) : amv T n (fgp T n 0 7 (i + 1)) = prS T n i := by unfold prS; rw [if_neg (fun q => d ((pf2 c).trans q))]
theorem ps0 {T : Nat → Int32} {n i : Nat} (c : rdL (cod T n i) = 0) : (-1000) = prS T n i := by unfold prS; rw [if_pos (pf0 c).symm]
theorem po5 {T : Nat → Int32} {n i : Nat} (c : rdL (cod T n i) = 5) : (if rdL (cod T n i) < 3 then prS T n i else prF T n i) = amv T n (i + 1) := by rw [if_neg (by rw [c]; decide), pf5 c]
theorem po4 {T : Nat → Int32} {n i : Nat} (c : rdL (cod T n i) = 4) : (if rdL (cod T n i) < 3 then prS T n i else prF T n i) = fgv T n 0 6 (i + 1) := by rw [if_neg (by rw [c]; decide), pf4 c]
theorem po3 {T : Nat → Int32} {n i : Nat} (c : rdL (cod T n i) = 3) : (if rdL (cod T n i) < 3 then prS T n i else prF T n i) = fgv T n 0 7 (i + 1) := by rw [if_neg (by rw [c]; decide), pf3 c]
theorem po2a {T : Nat → Int32} {n i : Nat} (c : rdL (cod T n i) = 2) (d : ¬ fgv T n 0 7 (i + 1) = -1000) : (if rdL (cod T n i) < 3 then prS T n i else prF T n i) = amv T n (fgp T n 0 7 (i + 1)) := by rw [if_pos (by rw [c]; decide), ps2a c d]
theorem po2b {T : Nat → Int32} {n i : Nat} (c : rdL (cod T n i) = 2) (d : fgv T n 0 7 (i + 1) = -1000) : (if rdL (cod T n i) < 3 then prS T n i else prF T n i) = -1000 := by rw [if_pos (by rw [c]; decide), ← ps2b c d]
theorem po0 {T : Nat → Int32} {n i : Nat} (c : rdL (cod T n i) = 0) : (if rdL (cod T n i) < 3 then prS T n i else prF T n i) = -1000 := by rw [if_pos (by rw [c]; decide), ← ps0 c]
theorem pp5 {T : Nat → Int32} {n i : Nat} (c : rdL (cod T n i) = 5) : nI (amp T n (i + 1)) = nI (prP T n i) := by unfold prP; rw [c]; rfl
theorem pp4 {T : Nat → Int32} {n i : Nat} (c : rdL (cod T n i) = 4) : nI (fgp T n 0 6 (i + 1)) = nI (prP T n i) := by unfold prP; rw [c]; rfl
theorem pp3 {T : Nat → Int32} {n i : Nat} (c : rdL (cod T n i) = 3) : nI (fgp T n 0 7 (i + 1)) = nI (prP T n i) := by unfold prP; rw [c]; rfl
theorem pp2b {T : Nat → Int32} {n i : Nat} (c : rdL (cod T n i) = 2) (d : fgv T n 0 7 (i + 1) = -1000) : nI (fgp T n 0 7 (i + 1)) = nI (prP T n i) := by unfold prP; rw [c, if_neg (by decide), if_neg (by decide), if_neg (by decide), if_neg (by decide), if_pos d]
theorem pp2a {T : Nat → Int32} {n i : Nat} (c : rdL (cod T n i) = 2) (d : ¬ fgv T n 0 7 (i + 1) = -1000) : nI (amp T n (fgp T n 0 7 (i + 1))) = nI (prP T n i) := by unfold prP; rw [c, if_neg (by decide), if_neg (by decide), if_neg (by decide), if_neg (by decide), if_neg d]
theorem pp0 {T : Nat → Int32} {n i : Nat} (c : rdL (cod T n i) = 0) : nI i = nI (prP T n i) := by unfold prP; rw [c]; rfl
theorem part_end0 {T : Nat → Int32} {n p : Nat} (hp1 : p ≤ n) (hp2 : 1 ≤ rdS T p ∧ rdS T p ≤ 5) (hp3 : p < n → rdS T (p + 1) = 0) : ¬ (rdS T n = 6 ∨ rdS T n = 7) := by
  intro q
  rcases Nat.lt_or_ge p n with w | w
  · rw [rd_end0 w (hp3 w)] at q
    exact absurd q (by decide)
  · have e : n = p := by omega
    rw [e] at q
    omega
theorem b1_of {p : Prop} [Decidable p] (h : p) : ¬ b1 p = 0 := by
  unfold b1
  rw [if_pos h]
  decide
theorem b1_no {p : Prop} [Decidable p] (h : ¬ p) : b1 p = 0 := by
  unfold b1
  rw [if_neg h]
theorem rdL0_ne {x y : Int32} (h : rdL x = 0) (h2 : ¬ rdL y = 0) : ¬ x = y := fun q => h2 (by rw [← q]; exact h)
theorem rdL_2 {x : Int32} (h : rdL x = 2) : x = 102 ∨ x = 118 := by
  by_cases c : x = 102 ∨ x = 118
  · exact c
  · exfalso
    unfold rdL at h
    rw [if_neg c] at h
    repeat (first | (split at h) | omega)
theorem rdL_3 {x : Int32} (h : rdL x = 3) : x = 100 ∨ x = 112 ∨ x = 110 := by
  by_cases c : x = 100 ∨ x = 112 ∨ x = 110
  · exact c
  · exfalso
    unfold rdL at h
    rw [if_neg c] at h
    repeat (first | (split at h) | omega)
theorem rdL_4 {x : Int32} (h : rdL x = 4) : x = 99 := by
  by_cases c : x = 99
  · exact c
  · exfalso
    unfold rdL at h
    rw [if_neg c] at h
    repeat (first | (split at h) | omega)
theorem rdL_5 {x : Int32} (h : rdL x = 5) : x = 104 := by
  by_cases c : x = 104
  · exact c
  · exfalso
    unfold rdL at h
    rw [if_neg c] at h
    repeat (first | (split at h) | omega)

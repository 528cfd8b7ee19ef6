/-! notes: in the order of their hours, one for each balloon and hour -/
def NS (S : Nat → Nat → Int32) : Prop := (∀ k, k + 1 < cy S → (S 8 k).toInt ≤ (S 8 (k + 1)).toInt ∧ ((S 8 k).toInt < (S 8 (k + 1)).toInt ∨ ¬ S 7 k = S 7 (k + 1))) ∧ ∀ k, k < cy S → (S 8 k).toInt ≤ (S 12 0).toInt
theorem NS_up {S S' : Nat → Nat → Int32} (h : NS S) (h7 : S' 7 = S 7) (h8 : S' 8 = S 8) (hc : S' 12 8 = S 12 8) (hh : (S 12 0).toInt ≤ (S' 12 0).toInt) : NS S' := by
  have e : cy S' = cy S := by unfold cy; rw [hc]
  unfold NS
  rw [e, h7, h8]
  exact ⟨h.1, fun k hk => Int.le_trans (h.2 k hk) hh⟩
theorem plk_sp (S : Nat → Nat → Int32) (x y : Int32) : ∀ f k, (plk S x y f k < k + f → S 7 (plk S x y f k) = x ∧ S 8 (plk S x y f k) = y) ∧ ∀ j, k ≤ j → j < plk S x y f k → ¬ (S 7 j = x ∧ S 8 j = y)
  | 0, k => ⟨fun h => absurd h (Nat.lt_irrefl _), fun j h1 h2 => absurd h2 (Nat.not_lt.mpr h1)⟩
  | f + 1, k => by
    obtain ⟨i1, i2⟩ := plk_sp S x y f (k + 1)
    simp only [plk]
    by_cases c : S 7 k = x ∧ S 8 k = y
    · rw [if_pos c]
      exact ⟨fun _ => c, fun j h1 h2 => absurd h2 (Nat.not_lt.mpr h1)⟩
    · rw [if_neg c]
      refine ⟨fun h => i1 (by omega), fun j h1 h2 => ?_⟩
      by_cases e : j = k
      · rw [e]; exact c
      · exact i2 j (by omega) h2
theorem NS_add {S S' : Nat → Nat → Int32} {z n : Nat} {x : Int32} {s : Nat} (hz : cy S = z) (hn : cy S' = n + 1) (h : NS S) (hs : n + s = z) (h7 : ∀ k, k < n → S' 7 k = S 7 (k + s)) (h8 : ∀ k, k < n → S' 8 k = S 8 (k + s)) (h9 : S' 7 n = x) (h10 : S' 8 n = S 12 0) (hh : S' 12 0 = S 12 0) (hno : ∀ k, k < z → ¬ (S 7 k = x ∧ S 8 k = S 12 0)) : NS S' := by
  unfold NS
  rw [hn]
  refine ⟨fun k hk => ?_, fun k hk => ?_⟩
  · by_cases e : k + 1 = n
    · rw [e, h9, h10, h7 k (by omega), h8 k (by omega)]
      have h1 := h.2 (k + s) (by omega)
      refine ⟨h1, ?_⟩
      by_cases d : S 7 (k + s) = x
      · have h2 : ¬ S 8 (k + s) = S 12 0 := fun q => hno (k + s) (by omega) ⟨d, q⟩
        have h3 : ¬ (S 8 (k + s)).toInt = (S 12 0).toInt := fun q => h2 (Int32.toInt_inj.mp q)
        exact Or.inl (by omega)
      · exact Or.inr d
    · have h1 := h.1 (k + s) (by omega)
      rw [h7 k (by omega), h8 k (by omega), h7 (k + 1) (by omega), h8 (k + 1) (by omega), show k + 1 + s = k + s + 1 by omega]
      exact h1
  · rw [hh]
    by_cases e : k = n
    · rw [e, h10]; exact Int.le_refl _
    · rw [h8 k (by omega)]
      exact h.2 (k + s) (by omega)
theorem NS_not {S : Nat → Nat → Int32} {b : Nat} (hO : OK S) (h : NS S) : NS (notS S (cy S) b) := by
  have hz := hO.2.2.2
  have hp := plc_le S (cy S) (nI b) (S 12 0)
  obtain ⟨p1, p2⟩ := plk_sp S (nI b) (S 12 0) (cy S) 0
  have ep : plk S (nI b) (S 12 0) (cy S) 0 = plc S (cy S) (nI b) (S 12 0) := rfl
  rw [ep] at p1 p2
  have e7 : notS S (cy S) b 7 = nwr (S 7) (plc S (cy S) (nI b) (S 12 0)) (nI b) := rfl
  have e8 : notS S (cy S) b 8 = nwr (S 8) (plc S (cy S) (nI b) (S 12 0)) (S 12 0) := rfl
  have e0 : notS S (cy S) b 12 0 = S 12 0 := rfl
  have ec : notS S (cy S) b 12 8 = nI (nsz (cy S) (plc S (cy S) (nI b) (S 12 0))) := rfl
  generalize plc S (cy S) (nI b) (S 12 0) = q at *
  by_cases c : q < cy S
  · have en : nsz (cy S) q = cy S := if_pos c
    have w7 : notS S (cy S) b 7 = S 7 := by
      rw [e7]
      unfold nwr
      rw [if_neg (by omega)]
      funext j
      by_cases e : j = q
      · rw [e, upd_s, (p1 (by omega)).1]
      · rw [upd_n _ _ e]
    have w8 : notS S (cy S) b 8 = S 8 := by
      rw [e8]
      unfold nwr
      rw [if_neg (by omega)]
      funext j
      by_cases e : j = q
      · rw [e, upd_s, (p1 (by omega)).2]
      · rw [upd_n _ _ e]
    exact NS_up h w7 w8 (by rw [ec, en]; exact hO.2.2.1.symm) (by rw [e0]; exact Int.le_refl _)
  · have eq : q = cy S := by omega
    by_cases d : cy S < 20
    · have en : nsz (cy S) q = cy S + 1 := by unfold nsz; rw [if_neg c, if_pos d]
      have hc : cy (notS S (cy S) b) = cy S + 1 := by rw [en] at ec; exact cy_of ec (by omega)
      have hw : ∀ (f : Nat → Int32) (v : Int32), nwr f q v = upd f q v := fun f v => if_neg (by omega)
      refine NS_add (z := cy S) (n := cy S) (x := nI b) (s := 0) rfl hc h (by omega) (fun k hk => ?_) (fun k hk => ?_) ?_ ?_ e0 (fun k hk => p2 k (Nat.zero_le k) (by omega))
      · rw [e7, hw, upd_n _ _ (by omega)]; rfl
      · rw [e8, hw, upd_n _ _ (by omega)]; rfl
      · rw [e7, hw, eq, upd_s]
      · rw [e8, hw, eq, upd_s]
    · have h20 : cy S = 20 := by omega
      have en : nsz (cy S) q = 20 := by unfold nsz; rw [if_neg c, if_neg d, h20]
      have hc : cy (notS S (cy S) b) = 19 + 1 := by rw [en] at ec; exact cy_of ec (by omega)
      have hw : ∀ (f : Nat → Int32) (v : Int32), nwr f q v = upd (shf f) 19 v := fun f v => if_pos (by omega)
      have hsf : ∀ (f : Nat → Int32) (k : Nat), k < 19 → shf f k = f (k + 1) := fun f k hk => if_pos hk
      refine NS_add (z := 20) (n := 19) (x := nI b) (s := 1) h20 hc h (by omega) (fun k hk => ?_) (fun k hk => ?_) ?_ ?_ e0 (fun k hk => p2 k (Nat.zero_le k) (by omega))
      · rw [e7, hw, upd_n _ _ (by omega), hsf _ _ hk]
      · rw [e8, hw, upd_n _ _ (by omega), hsf _ _ hk]
      · rw [e7, hw, upd_s]
      · rw [e8, hw, upd_s]
theorem note_1 {S : Nat → Nat → Int32} {b : Nat} (hO : OK S) : ¬ notS S (cy S) b 12 8 ≤ 0 := by
  have hp := plc_le S (cy S) (nI b) (S 12 0)
  have ec : notS S (cy S) b 12 8 = nI (nsz (cy S) (plc S (cy S) (nI b) (S 12 0))) := rfl
  rw [ec]
  have hz := hO.2.2.2
  have h1 : 1 ≤ nsz (cy S) (plc S (cy S) (nI b) (S 12 0)) ∧ nsz (cy S) (plc S (cy S) (nI b) (S 12 0)) ≤ 20 := by
    unfold nsz
    split
    · omega
    · split <;> omega
  intro q
  have q2 := Int32.le_iff_toInt_le.mp q
  have e : (0 : Int32).toInt = 0 := rfl
  rw [nI_toInt (by omega), e] at q2
  omega
/-- hours -/
def HR (t : Nat) (S : Nat → Nat → Int32) : Prop := 0 ≤ (S 12 0).toInt ∧ (S 12 0).toInt ≤ 100 * (t : Int)
theorem hrs_h {S : Nat → Nat → Int32} (h0 : 0 ≤ (S 12 0).toInt) : ∀ n : Nat, (S 12 0).toInt + n ≤ 900000000 → (hrs S n 12 0).toInt = (S 12 0).toInt + n
  | 0, _ => by show (S 12 0).toInt = (S 12 0).toInt + ((0 : Nat) : Int); omega
  | n + 1, h => by
    have i := hrs_h h0 n (by omega)
    have e : hrs S (n + 1) 12 0 = hrs S n 12 0 + 1 := rfl
    have e1 : (1 : Int32).toInt = 1 := rfl
    rw [e, i_add (by omega) (by omega) (by omega) (by omega), i, e1]
    omega
theorem hrs_7 (S : Nat → Nat → Int32) : ∀ n, hrs S n 7 = S 7 ∧ hrs S n 8 = S 8 ∧ hrs S n 12 8 = S 12 8
  | 0 => ⟨rfl, rfl, rfl⟩
  | n + 1 => hrs_7 S n
theorem hrs_add (S : Nat → Nat → Int32) (a : Nat) : ∀ b, hrs (hrs S a) b = hrs S (a + b)
  | 0 => rfl
  | b + 1 => by
    have e1 : hrs (hrs S a) (b + 1) = hourS (hrs (hrs S a) b) := rfl
    have e2 : hrs S (a + (b + 1)) = hourS (hrs S (a + b)) := rfl
    rw [e1, e2, hrs_add S a b]
/-- what the law's loop keeps of a state -/
def PD (t : Nat) (S : Nat → Nat → Int32) : Prop := GD t S ∧ NS S ∧ HR t S
theorem PD_up {t : Nat} {S : Nat → Nat → Int32} (h : PD t S) : PD (t + 1) S := ⟨GD_up h.1, h.2.1, h.2.2.1, by have := h.2.2.2; omega⟩
theorem PD_e {t : Nat} {S S' : Nat → Nat → Int32} (h : PD t S) (hG : GD (t + 1) S') (h7 : S' 7 = S 7) (h8 : S' 8 = S 8) (hc : S' 12 8 = S 12 8) (hh : S' 12 0 = S 12 0) : PD (t + 1) S' :=
  ⟨hG, NS_up h.2.1 h7 h8 hc (by rw [hh]; exact Int.le_refl _), by have h1 := h.2.2; unfold HR at h1 ⊢; rw [hh]; omega⟩
theorem PD_pas {t n : Nat} {S : Nat → Nat → Int32} (ht : t < 1000) (hn : n ≤ 99) (h : PD t S) : PD (t + 1) (hrs S n) := by
  obtain ⟨hG, hN, h1, h2⟩ := h
  obtain ⟨e7, e8, ec⟩ := hrs_7 S n
  have e := hrs_h h1 n (by omega)
  exact ⟨GD_up ⟨OK_hrs hG.1 _, AC_hrs hG.2 hG.1 (by omega) _⟩, NS_up hN e7 e8 ec (by omega), by omega, by omega⟩
theorem PD_not {t b : Nat} {S : Nat → Nat → Int32} (h : PD t S) : PD (t + 1) (notS S (cy S) b) :=
  ⟨GD_e h.1 (OK_not h.1.1) rfl rfl rfl rfl, NS_not h.1.1 h.2.1, h.2.2.1, by
    have h1 := h.2.2.2
    show (S 12 0).toInt ≤ 100 * ((t + 1 : Nat) : Int)
    omega⟩
theorem PD_fil {t b : Nat} {S : Nat → Nat → Int32} {x : Int32} (ht : t < 1000) (h : PD t S) (hb : b < 8) (hx : 1 ≤ x.toInt ∧ x.toInt ≤ 99) (c : wn0 S b x = 0) : PD (t + 1) (mended (filS S b x)) :=
  PD_e h ⟨OK_fil h.1.1 hb hx c, AC_up (AC_fil h.1.2 h.1.1 hb hx (by omega)) (by omega)⟩ rfl rfl rfl rfl
theorem PD_ven {t b : Nat} {S : Nat → Nat → Int32} {x : Int32} (ht : t < 1000) (h : PD t S) (hb : b < 8) (hx : 1 ≤ x.toInt ∧ x.toInt ≤ 99) (c : wn1 S b x = 0) : PD (t + 1) (mended (venS S b x)) :=
  PD_e h ⟨OK_ven h.1.1 hb hx c, AC_up (AC_ven h.1.2 h.1.1 hb hx (by omega)) (by omega)⟩ rfl rfl rfl rfl
theorem PD_dro {t b : Nat} {S : Nat → Nat → Int32} (h : PD t S) (hb : b < 8) (c : wn2 S b = 0) : PD (t + 1) (mended (droS S b)) := PD_e h (GD_e h.1 (OK_dro h.1.1 hb c) rfl rfl rfl rfl) rfl rfl rfl rfl
theorem PD_put {t b : Nat} {S : Nat → Nat → Int32} (h : PD t S) (hb : b < 8) (c : wn3 S b = 0) : PD (t + 1) (mended (putS S b)) := PD_e h (GD_e h.1 (OK_put h.1.1 hb c) rfl rfl rfl rfl) rfl rfl rfl rfl
theorem PD_lea {t b : Nat} {S : Nat → Nat → Int32} {x : Int32} (h : PD t S) (hx : 0 ≤ x.toInt ∧ x.toInt ≤ 9) : PD (t + 1) (leaS S b x) := PD_e h (GD_e h.1 (OK_lea h.1.1 hx) rfl rfl rfl rfl) rfl rfl rfl rfl
theorem PD_tie {t r : Nat} {S : Nat → Nat → Int32} {x : Int32} (h : PD t S) (hx : 0 ≤ x.toInt ∧ x.toInt ≤ 300) : PD (t + 1) (mended (tieS S r x)) := PD_e h (GD_e h.1 (OK_tie h.1.1 hx) rfl rfl rfl rfl) rfl rfl rfl rfl
theorem PD_cut {t r : Nat} {S : Nat → Nat → Int32} (h : PD t S) : PD (t + 1) (mended (cutS S r)) := PD_e h (GD_e h.1 (OK_cut h.1.1) rfl rfl rfl rfl) rfl rfl rfl rfl
theorem PD_bea {t r : Nat} {S : Nat → Nat → Int32} {x : Int32} (h : PD t S) (hx : 0 ≤ x.toInt ∧ x.toInt ≤ 500) : PD (t + 1) (beaS S r x) := PD_e h (GD_e h.1 (OK_bea h.1.1 hx) rfl rfl rfl rfl) rfl rfl rfl rfl
theorem PD_tun {t b : Nat} {S : Nat → Nat → Int32} {x : Int32} (h : PD t S) : PD (t + 1) (tunS S b x) := PD_e h (GD_e h.1 (OK_tun h.1.1) rfl rfl rfl rfl) rfl rfl rfl rfl
/-! what saving and going back do to the matrices -/
theorem sv_top {V : Nat → Nat → Nat → Int32} {z : Nat} {S : Nat → Nat → Int32} (hz : z ≤ 6) : vput (savV V z) S (savZ z) = V 0 := by
  unfold savZ
  by_cases c : z < 6
  · rw [if_pos c, vput_n (by omega)]
    unfold savV
    rw [if_pos c, if_pos rfl]
  · rw [if_neg c, vput_n (by omega)]
    unfold savV
    rw [if_neg c, if_pos (by omega)]
theorem sv_nxt {V : Nat → Nat → Nat → Int32} {z : Nat} {S : Nat → Nat → Int32} (hz : z ≤ 6) (h0 : 0 < z) : vput (savV V z) S (savZ z - 1) = V z := by
  unfold savZ
  by_cases c : z < 6
  · rw [if_pos c, vput_n (by omega)]
    unfold savV
    rw [if_pos c, if_neg (by omega), show z + 1 - 1 = z by omega]
  · have e : z = 6 := by omega
    subst e
    rw [if_neg c, vput_n (by omega)]
    unfold savV
    rw [if_neg c, if_neg (by omega), if_pos (by omega)]
theorem sv_7 {V : Nat → Nat → Nat → Int32} {z : Nat} {S : Nat → Nat → Int32} (hz : z ≤ 6) : vput (savV V z) S 7 = V 7 := by
  rw [vput_n (by omega)]
  unfold savV
  by_cases c : z < 6
  · rw [if_pos c, if_neg (by omega)]
  · rw [if_neg c, if_neg (by omega), if_neg (by omega)]
theorem savZ_0 (z : Nat) : 0 < savZ z := by unfold savZ; split <;> omega
/-- the present state, the snapshot, the ring of saved ones -/
def WI (S S7 : Nat → Nat → Int32) (c : Nat → Nat → Nat) (f : Nat → Option Nat) (z : Nat) (V : Nat → Nat → Nat → Int32) : Prop := z ≤ 6 ∧ (∀ i, i < 6 → f i = some (c i 0)) ∧ V 0 = S ∧ V 7 = S7
theorem WI_save {S S7 S' : Nat → Nat → Int32} {c : Nat → Nat → Nat} {f : Nat → Option Nat} {z : Nat} {V : Nat → Nat → Nat → Int32} (h : WI S S7 c f z V) : WI S' S7 (cN c z) (fN f z) (savZ z) (vput (savV V z) S') := by
  obtain ⟨hz, hf, h0, h7⟩ := h
  refine ⟨savZ_le hz, ?_, vput_0, (sv_7 hz).trans h7⟩
  by_cases c9 : z < 6
  · rw [show cN c z = c from if_pos c9, show fN f z = f from if_pos c9]; exact hf
  · rw [show cN c z = rtc c from if_neg c9, show fN f z = rtf f from if_neg c9]; exact rtc_lt hf
/-- .. and back -/
theorem WI_back {S S7 S9 : Nat → Nat → Int32} {c : Nat → Nat → Nat} {f : Nat → Option Nat} {z : Nat} {V : Nat → Nat → Nat → Int32} (h : WI S9 S7 c f z V) (h0 : 0 < z) (e : V z = S) : WI S S7 c f (z - 1) (vput V (V z)) := by
  obtain ⟨hz, hf, h1, h7⟩ := h
  exact ⟨by omega, hf, by rw [vput_0]; exact e, by rw [vput_n (by omega)]; exact h7⟩

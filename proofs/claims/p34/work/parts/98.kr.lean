/-! what the law's loop keeps: class and reference in one telling -/
def gs (f : Nat → Int32) : Nat → Int
  | 0 => 0
  | n + 1 => gs f n + (f n).toInt
/-- the accounts of gas: what was filled is bounded by the calls, what is lost is the rest -/
def AC (M : Int) (S : Nat → Nat → Int32) : Prop := (0 ≤ (S 12 1).toInt ∧ (S 12 1).toInt ≤ M) ∧ 0 ≤ (S 12 2).toInt ∧ 0 ≤ (S 12 3).toInt ∧ gs (S 0) 8 + (S 12 2).toInt + (S 12 3).toInt = 480 + (S 12 1).toInt
theorem AC_up {M N : Int} {S : Nat → Nat → Int32} (h : AC M S) (hMN : M ≤ N) : AC N S := ⟨⟨h.1.1, Int.le_trans h.1.2 hMN⟩, h.2⟩
def GD (t : Nat) (S : Nat → Nat → Int32) : Prop := OK S ∧ AC (6100 * t) S
theorem GD_up {t : Nat} {S : Nat → Nat → Int32} (h : GD t S) : GD (t + 1) S := ⟨h.1, AC_up h.2 (by omega)⟩
def IV (t : Nat) (w0 : Int32) (n : Nat) (c : Nat → Nat → Nat) (f : Nat → Option Nat) (z : Nat) (V B : Nat → Nat → Nat → Int32) : Prop :=
  (z ≤ 6 ∧ n ≤ 60 ∧ ∀ i, i < 6 → f i = some (c i 0)) ∧ V 0 = B 0 ∧ (∀ i, i < z → V (i + 1) = B (i + 1)) ∧ GD t (B 0) ∧ (∀ i, i < z → GD t (B (i + 1))) ∧ (w0 = 0 ∨ (w0 = 1 ∧ V 7 = B 7 ∧ GD t (B 7)))
theorem IV_up {t : Nat} {w0 : Int32} {n : Nat} {c : Nat → Nat → Nat} {f : Nat → Option Nat} {z : Nat} {V B : Nat → Nat → Nat → Int32} (h : IV t w0 n c f z V B) : IV (t + 1) w0 n c f z V B := by
  obtain ⟨h1, h2, h3, h4, h5, h6⟩ := h
  exact ⟨h1, h2, h3, GD_up h4, fun i hi => GD_up (h5 i hi), h6.imp id (fun h => ⟨h.1, h.2.1, GD_up h.2.2⟩)⟩
theorem IV_n {t : Nat} {w0 : Int32} {n n' : Nat} {c : Nat → Nat → Nat} {f : Nat → Option Nat} {z : Nat} {V B : Nat → Nat → Nat → Int32} (h : IV t w0 n c f z V B) (hn : n' ≤ 60) : IV t w0 n' c f z V B := ⟨⟨h.1.1, hn, h.1.2.2⟩, h.2⟩
theorem IV_B {t : Nat} {w0 : Int32} {n : Nat} {c : Nat → Nat → Nat} {f : Nat → Option Nat} {z : Nat} {V B B' : Nat → Nat → Nat → Int32} (h : IV t w0 n c f z V B) (e : ∀ a, a < 8 → B' a = B a) : IV t w0 n c f z V B' := by
  obtain ⟨⟨ha, hb, hc⟩, h2, h3, h4, h5, h6⟩ := h
  refine ⟨⟨ha, hb, hc⟩, by rw [e 0 (by decide)]; exact h2, fun i hi => by rw [e (i + 1) (by omega)]; exact h3 i hi, by rw [e 0 (by decide)]; exact h4, fun i hi => by rw [e (i + 1) (by omega)]; exact h5 i hi, ?_⟩
  rw [e 7 (by decide)]
  exact h6
theorem rtc_lt {c : Nat → Nat → Nat} {f : Nat → Option Nat} (h : ∀ i, i < 6 → f i = some (c i 0)) : ∀ i, i < 6 → rtf f i = some (rtc c i 0) := by
  intro i hi
  unfold rtf rtc
  by_cases h5 : i < 5
  · rw [if_pos h5, if_pos h5]
    exact h (i + 1) (by omega)
  · rw [if_neg h5, if_neg h5]
    exact h 0 (by omega)
theorem vput_0 {V : Nat → Nat → Nat → Int32} {S : Nat → Nat → Int32} : vput V S 0 = S := if_pos rfl
theorem vput_n {V : Nat → Nat → Nat → Int32} {S : Nat → Nat → Int32} {k : Nat} (h : k ≠ 0) : vput V S k = V k := if_neg h
theorem uA_0 {B : Nat → Nat → Nat → Int32} {S : Nat → Nat → Int32} {a : Nat} : uA B a S a = S := if_pos rfl
theorem uA_m {B : Nat → Nat → Nat → Int32} {S : Nat → Nat → Int32} {a k : Nat} (h : k ≠ a) : uA B a S k = B k := if_neg h
/-- a state is saved, and the present one is another -/
theorem IV_save {t : Nat} {w0 : Int32} {n : Nat} {c : Nat → Nat → Nat} {f : Nat → Option Nat} {z : Nat} {V B : Nat → Nat → Nat → Int32} {S : Nat → Nat → Int32} (h : IV t w0 n c f z V B) (hS : GD (t + 1) S) : IV (t + 1) w0 n (cN c z) (fN f z) (savZ z) (vput (savV V z) S) (uA (savB B z) 0 S) := by
  obtain ⟨⟨ha, hb, hc⟩, h2, h3, h4, h5, h6⟩ := h
  by_cases hz : z < 6
  · have e1 : cN c z = c := if_pos hz
    have e2 : fN f z = f := if_pos hz
    have e3 : savZ z = z + 1 := if_pos hz
    have e4 : ∀ k, savV V z k = if k = z + 1 then V 0 else V k := fun k => if_pos hz
    have e5 : ∀ k, savB B z k = if k = z + 1 then B 0 else B k := fun k => by
      unfold savB
      rw [if_pos hz]
      rfl
    rw [e1, e2, e3]
    refine ⟨⟨by omega, hb, hc⟩, by rw [vput_0, uA_0], fun i hi => ?_, by rw [uA_0]; exact hS, fun i hi => ?_, ?_⟩
    · rw [vput_n (by omega), uA_m (by omega), e4, e5]
      by_cases hi2 : i + 1 = z + 1
      · rw [if_pos hi2, if_pos hi2]
        exact h2
      · rw [if_neg hi2, if_neg hi2]
        exact h3 i (by omega)
    · rw [uA_m (by omega), e5]
      by_cases hi2 : i + 1 = z + 1
      · rw [if_pos hi2]
        exact GD_up h4
      · rw [if_neg hi2]
        exact GD_up (h5 i (by omega))
    · rw [vput_n (by omega), uA_m (by omega), e4, e5, if_neg (by omega), if_neg (by omega)]
      exact h6.imp id (fun h => ⟨h.1, h.2.1, GD_up h.2.2⟩)
  · have hz6 : z = 6 := by omega
    subst hz6
    have e4 : ∀ k, savV V 6 k = if k = 6 then V 0 else if 1 ≤ k ∧ k ≤ 5 then V (k + 1) else V k := fun k => if_neg hz
    have e5 : ∀ k, savB B 6 k = if k = 6 then B 0 else shB B 6 k := fun k => by
      unfold savB
      rw [if_neg hz]
      rfl
    have e6 : ∀ k, 1 ≤ k → k < 6 → shB B 6 k = B (k + 1) := fun k h1 h2 => if_pos ⟨h1, h2⟩
    refine ⟨⟨by decide, hb, rtc_lt hc⟩, by rw [vput_0, uA_0], fun i hi => ?_, by rw [uA_0]; exact hS, fun i hi => ?_, ?_⟩
    · have hi : i < 6 := hi
      rw [vput_n (by omega), uA_m (by omega), e4, e5]
      by_cases hi2 : i + 1 = 6
      · rw [if_pos hi2, if_pos hi2]
        exact h2
      · rw [if_neg hi2, if_neg hi2, if_pos (by omega), e6 _ (by omega) (by omega)]
        exact h3 (i + 1) (by omega)
    · have hi : i < 6 := hi
      rw [uA_m (by omega), e5]
      by_cases hi2 : i + 1 = 6
      · rw [if_pos hi2]
        exact GD_up h4
      · rw [if_neg hi2, e6 _ (by omega) (by omega)]
        exact GD_up (h5 (i + 1) (by omega))
    · rw [vput_n (by omega), uA_m (by omega), e4, e5, if_neg (by omega), if_neg (by omega), if_neg (by omega), show shB B 6 7 = B 7 from if_neg (by omega)]
      exact h6.imp id (fun h => ⟨h.1, h.2.1, GD_up h.2.2⟩)
theorem IV_undo {t : Nat} {w0 : Int32} {n : Nat} {c : Nat → Nat → Nat} {f : Nat → Option Nat} {z : Nat} {V B : Nat → Nat → Nat → Int32} (h : IV t w0 n c f z V B) (hz : 0 < z) : IV (t + 1) w0 n c f (z - 1) (vput V (V z)) (uA B 0 (B z)) := by
  obtain ⟨⟨ha, hb, hc⟩, h2, h3, h4, h5, h6⟩ := h
  obtain ⟨q, rfl⟩ : ∃ q, z = q + 1 := ⟨z - 1, by omega⟩
  refine ⟨⟨by omega, hb, hc⟩, by rw [vput_0, uA_0]; exact h3 q (by omega), fun i hi => ?_, by rw [uA_0]; exact GD_up (h5 q (by omega)), fun i hi => ?_, ?_⟩
  · rw [vput_n (by omega), uA_m (by omega)]
    exact h3 i (by omega)
  · rw [uA_m (by omega)]
    exact GD_up (h5 i (by omega))
  · rw [vput_n (by omega), uA_m (by omega)]
    exact h6.imp id (fun h => ⟨h.1, h.2.1, GD_up h.2.2⟩)
theorem IV_keep {t : Nat} {w0 : Int32} {n : Nat} {c : Nat → Nat → Nat} {f : Nat → Option Nat} {z : Nat} {V B : Nat → Nat → Nat → Int32} (h : IV t w0 n c f z V B) : IV (t + 1) 1 n c f z (vkeep V) (uA B 7 (B 0)) := by
  obtain ⟨⟨ha, hb, hc⟩, h2, h3, h4, h5, h6⟩ := h
  have e : ∀ k, k ≠ 7 → vkeep V k = V k := fun k hk => if_neg hk
  have e7 : vkeep V 7 = V 0 := if_pos rfl
  refine ⟨⟨ha, hb, hc⟩, by rw [e 0 (by decide), uA_m (by decide)]; exact h2, fun i hi => ?_, by rw [uA_m (by decide)]; exact GD_up h4, fun i hi => ?_, Or.inr ⟨rfl, ?_, ?_⟩⟩
  · rw [e _ (by omega), uA_m (by omega)]
    exact h3 i hi
  · rw [uA_m (by omega)]
    exact GD_up (h5 i hi)
  · rw [e7, uA_0]
    exact h2
  · rw [uA_0]
    exact GD_up h4
/-- both have done a deed that saves -/
theorem sv_step {t : Nat} {w0 : Int32} {n : Nat} {c c9 : Nat → Nat → Nat} {f f9 : Nat → Option Nat} {z z9 : Nat} {V V9 B B8 : Nat → Nat → Nat → Int32} {S : Nat → Nat → Int32} {K k9 th8 s8 rok r8 : Int32} {w9 : Int64} (h : IV t w0 n c f z V B) (hu : Res K k9 (c, f, z, V) (cN c z, fN f z, savZ z, vput (savV V z) S) (c9, f9, z9, V9) rok.toInt64 w9) (hv : Res K th8 (B, nI z) (uA (savB B z) 0 S, nI (savZ z)) (B8, s8) rok r8) (hS : K = 0 → GD (t + 1) S) :
    IV (t + 1) w0 n c9 f9 z9 V9 B8 ∧ s8 = nI z9 ∧ th8 = k9 ∧ (k9 = 0 → w9 = r8.toInt64) := by
  obtain ⟨u1, u2, u3⟩ := hu
  obtain ⟨v1, v2, v3⟩ := hv
  refine ⟨?_, ?_, v1.trans u1.symm, fun hk => ?_⟩
  · by_cases hK : K = 0
    · obtain ⟨a1, -⟩ := u2 hK
      obtain ⟨b1, -⟩ := v2 hK
      cases a1
      cases b1
      exact IV_save h (hS hK)
    · have a1 := u3 hK
      have b1 := v3 hK
      cases a1
      cases b1
      exact IV_up h
  · by_cases hK : K = 0
    · obtain ⟨a1, -⟩ := u2 hK
      obtain ⟨b1, -⟩ := v2 hK
      cases a1
      cases b1
      rfl
    · have a1 := u3 hK
      have b1 := v3 hK
      cases a1
      cases b1
      rfl
  · have hK : K = 0 := u1.symm.trans hk
    rw [(u2 hK).2, (v2 hK).2]
theorem Res_irr {σ ρ : Type} {K k : Int32} {s0 sok sok' s : σ} {rok rok' r : ρ} (h : Res K k s0 sok s rok r) (hK : K = 0 → sok = sok' ∧ rok = rok') : Res K k s0 sok' s rok' r := by
  refine ⟨h.1, fun h0 => ?_, h.2.2⟩
  obtain ⟨e1, e2⟩ := hK h0
  rw [← e1, ← e2]
  exact h.2.1 h0
theorem un_step {t : Nat} {w0 : Int32} {n : Nat} {c c9 : Nat → Nat → Nat} {f f9 : Nat → Option Nat} {z z9 : Nat} {V V9 B B8 : Nat → Nat → Nat → Int32} {k9 th8 s8 rok r8 : Int32} {w9 : Int64} (h : IV t w0 n c f z V B) (hu : Res (k1 (0 < z)) k9 (c, f, z, V) (c, f, z - 1, vput V (V z)) (c9, f9, z9, V9) rok.toInt64 w9) (hv : Res (k1 (0 < z)) th8 (B, nI z) (uA B 0 (B z), nI (z - 1)) (B8, s8) rok r8) :
    IV (t + 1) w0 n c9 f9 z9 V9 B8 ∧ s8 = nI z9 ∧ th8 = k9 ∧ (k9 = 0 → w9 = r8.toInt64) := by
  obtain ⟨u1, u2, u3⟩ := hu
  obtain ⟨v1, v2, v3⟩ := hv
  by_cases hz : 0 < z
  · have hK := k1_0 hz
    obtain ⟨a1, a2⟩ := u2 hK
    obtain ⟨b1, b2⟩ := v2 hK
    cases a1
    cases b1
    exact ⟨IV_undo h hz, rfl, v1.trans u1.symm, fun _ => by rw [a2, b2]⟩
  · have hK : ¬ k1 (0 < z) = 0 := by rw [k1_1 hz]; decide
    have a1 := u3 hK
    have b1 := v3 hK
    cases a1
    cases b1
    exact ⟨IV_up h, rfl, v1.trans u1.symm, fun hk => absurd (u1.symm.trans hk) hK⟩
theorem wk_step {t : Nat} {w0 : Int32} {n n9 : Nat} {c c9 : Nat → Nat → Nat} {f f9 : Nat → Option Nat} {z z9 : Nat} {V V9 B B8 : Nat → Nat → Nat → Int32} {S : Nat → Nat → Int32} {K k9 th8 s8 l8 rok r8 : Int32} {w9 : Int64} (h : IV t w0 n c f z V B) (hu : Res K k9 ((c, f, z, V), n) ((cN c z, fN f z, savZ z, vput (savV V z) S), 0) ((c9, f9, z9, V9), n9) rok.toInt64 w9) (hv : Res K th8 ((B, nI z), nI n) ((uA (savB B z) 0 S, nI (savZ z)), 0) ((B8, s8), l8) rok r8) (hS : K = 0 → GD (t + 1) S) :
    IV (t + 1) w0 n9 c9 f9 z9 V9 B8 ∧ s8 = nI z9 ∧ l8 = nI n9 ∧ th8 = k9 ∧ (k9 = 0 → w9 = r8.toInt64) := by
  obtain ⟨u1, u2, u3⟩ := hu
  obtain ⟨v1, v2, v3⟩ := hv
  by_cases hK : K = 0
  · obtain ⟨a1, a2⟩ := u2 hK
    obtain ⟨b1, b2⟩ := v2 hK
    cases a1
    cases b1
    exact ⟨IV_n (IV_save h (hS hK)) (by decide), rfl, rfl, v1.trans u1.symm, fun _ => by rw [a2, b2]⟩
  · have a1 := u3 hK
    have b1 := v3 hK
    cases a1
    cases b1
    exact ⟨IV_up h, rfl, rfl, v1.trans u1.symm, fun hk => absurd (u1.symm.trans hk) hK⟩
theorem ap_step {t : Nat} {w0 : Int32} {n n9 : Nat} {c : Nat → Nat → Nat} {f : Nat → Option Nat} {z : Nat} {V B : Nat → Nat → Nat → Int32} {T T9 T8 : Nat → Int32} {x k9 th8 l8 r8 : Int32} {w9 : Int64} (h : IV t w0 n c f z V B) (hu : Res (k2 (inR x 33 126) (n < 60)) k9 (T, n) (upd T n x, n + 1) (T9, n9) (nI (n + 1)).toInt64 w9) (hv : Res (k2 (inR x 33 126) (n < 60)) th8 (T, nI n) (upd T n x, nI (n + 1)) (T8, l8) (nI (n + 1)) r8) :
    IV (t + 1) w0 n9 c f z V B ∧ T8 = T9 ∧ l8 = nI n9 ∧ th8 = k9 ∧ (k9 = 0 → w9 = r8.toInt64) := by
  obtain ⟨u1, u2, u3⟩ := hu
  obtain ⟨v1, v2, v3⟩ := hv
  by_cases hK : k2 (inR x 33 126) (n < 60) = 0
  · have hn : n < 60 := Classical.byContradiction fun hn => by
      unfold k2 at hK
      by_cases hx : inR x 33 126
      · rw [if_pos hx, if_neg hn] at hK
        exact absurd hK (by decide)
      · rw [if_neg hx] at hK
        exact absurd hK (by decide)
    obtain ⟨a1, a2⟩ := u2 hK
    obtain ⟨b1, b2⟩ := v2 hK
    cases a1
    cases b1
    exact ⟨IV_n (IV_up h) (by omega), rfl, rfl, v1.trans u1.symm, fun _ => by rw [a2, b2]⟩
  · have a1 := u3 hK
    have b1 := v3 hK
    cases a1
    cases b1
    exact ⟨IV_up h, rfl, rfl, v1.trans u1.symm, fun hk => absurd (u1.symm.trans hk) hK⟩
theorem lg_same (x : Int64) : lg_cmp x x = 0 := by
  unfold lg_cmp
  simp

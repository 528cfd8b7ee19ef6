/-! the accounts of gas, deed by deed -/
theorem gs_nn {f : Nat → Int32} : ∀ n, (∀ j, j < n → 0 ≤ (f j).toInt) → 0 ≤ gs f n
  | 0, _ => Int.le_refl 0
  | n + 1, h => by
    have h1 := gs_nn n (fun j hj => h j (by omega))
    have h2 := h n (by omega)
    show 0 ≤ gs f n + (f n).toInt
    omega
theorem gs_cg {f g : Nat → Int32} : ∀ n, (∀ j, j < n → f j = g j) → gs f n = gs g n
  | 0, _ => rfl
  | n + 1, h => by
    show gs f n + (f n).toInt = gs g n + (g n).toInt
    rw [gs_cg n (fun j hj => h j (by omega)), h n (by omega)]
theorem gs_upd (f : Nat → Int32) (b : Nat) (x : Int32) : ∀ n, b < n → gs (upd f b x) n = gs f n + (x.toInt - (f b).toInt)
  | 0, h => absurd h (by omega)
  | n + 1, h => by
    show gs (upd f b x) n + (upd f b x n).toInt = gs f n + (f n).toInt + (x.toInt - (f b).toInt)
    by_cases e : b = n
    · subst e
      rw [upd_s, gs_cg (f := upd f b x) (g := f) b (fun j hj => upd_n _ _ (by omega))]
      omega
    · rw [upd_n _ _ (Ne.symm e), gs_upd f b x n (by omega)]
      omega
theorem gs_sm {f : Nat → Int32} : ∀ n, n ≤ 8 → (∀ j, j < n → 0 ≤ (f j).toInt ∧ (f j).toInt ≤ 9) → (sm f n).toInt = gs f n ∧ 0 ≤ gs f n ∧ gs f n ≤ 9 * n
  | 0, _, _ => ⟨rfl, Int.le_refl 0, by show (0 : Int) ≤ 9 * ((0 : Nat) : Int); omega⟩
  | n + 1, hn, h => by
    obtain ⟨e1, e2, e3⟩ := gs_sm n (by omega) (fun j hj => h j (by omega))
    have h2 := h n (by omega)
    have e : (sm f (n + 1)).toInt = (sm f n).toInt + (f n).toInt := i_add (by omega) (by omega) (by omega) (by omega)
    show (sm f (n + 1)).toInt = gs f n + (f n).toInt ∧ 0 ≤ gs f n + (f n).toInt ∧ gs f n + (f n).toInt ≤ 9 * ((n + 1 : Nat) : Int)
    rw [e, e1]
    exact ⟨rfl, by omega, by omega⟩
theorem gs_sub {f g h : Nat → Int32} : ∀ n, (∀ j, j < n → (h j).toInt = (f j).toInt - (g j).toInt) → gs h n = gs f n - gs g n
  | 0, _ => rfl
  | n + 1, e => by
    show gs h n + (h n).toInt = gs f n + (f n).toInt - (gs g n + (g n).toInt)
    rw [gs_sub n (fun j hj => e j (by omega)), e n (by omega)]
    omega
theorem AC_eq {M : Int} {S S' : Nat → Nat → Int32} (h : AC M S) (h0 : S' 0 = S 0) (h1 : S' 12 1 = S 12 1) (h2 : S' 12 2 = S 12 2) (h3 : S' 12 3 = S 12 3) : AC M S' := by
  unfold AC
  rw [h0, h1, h2, h3]
  exact h
theorem AC_fil {M : Int} {S : Nat → Nat → Int32} {b : Nat} {x : Int32} (h : AC M S) (hO : OK S) (hb : b < 8) (hx : 1 ≤ x.toInt ∧ x.toInt ≤ 99) (hM : M ≤ 900000000) : AC (M + 99) (mended (filS S b x)) := by
  obtain ⟨⟨a1, a2⟩, a3, a4, a5⟩ := h
  have g := (hO.1.1 b hb).1
  have e0 : mended (filS S b x) 0 = upd (S 0) b (S 0 b + x) := rfl
  have e1 : mended (filS S b x) 12 1 = S 12 1 + x := rfl
  have e2 : mended (filS S b x) 12 2 = S 12 2 := rfl
  have e3 : mended (filS S b x) 12 3 = S 12 3 := rfl
  have f1 : (S 12 1 + x).toInt = (S 12 1).toInt + x.toInt := i_add (by omega) (by omega) (by omega) (by omega)
  have f0 : (S 0 b + x).toInt = (S 0 b).toInt + x.toInt := i_add (by omega) (by omega) (by omega) (by omega)
  have f2 := gs_upd (S 0) b (S 0 b + x) 8 hb
  unfold AC
  rw [e0, e1, e2, e3, f1, f2, f0]
  exact ⟨⟨by omega, by omega⟩, a3, a4, by omega⟩
theorem AC_ven {M : Int} {S : Nat → Nat → Int32} {b : Nat} {x : Int32} (h : AC M S) (hO : OK S) (hb : b < 8) (hx : 1 ≤ x.toInt ∧ x.toInt ≤ 99) (hM : M ≤ 900000000) : AC (M + 99) (mended (venS S b x)) := by
  obtain ⟨⟨a1, a2⟩, a3, a4, a5⟩ := h
  have g := (hO.1.1 b hb).1
  have gn := gs_nn (f := S 0) 8 (fun j hj => (hO.1.1 j hj).1.1)
  have e0 : mended (venS S b x) 0 = upd (S 0) b (S 0 b - x) := rfl
  have e1 : mended (venS S b x) 12 1 = S 12 1 := rfl
  have e2 : mended (venS S b x) 12 2 = S 12 2 := rfl
  have e3 : mended (venS S b x) 12 3 = S 12 3 + x := rfl
  have f1 : (S 12 3 + x).toInt = (S 12 3).toInt + x.toInt := i_add (by omega) (by omega) (by omega) (by omega)
  have f0 : (S 0 b - x).toInt = (S 0 b).toInt - x.toInt := i_sub (by omega) (by omega) (by omega) (by omega)
  have f2 := gs_upd (S 0) b (S 0 b - x) 8 hb
  unfold AC
  rw [e0, e1, e2, e3, f1, f2, f0]
  exact ⟨⟨by omega, by omega⟩, a3, by omega, by omega⟩
theorem AC_hour {M : Int} {S : Nat → Nat → Int32} (h : AC M S) (hO : OK S) (hM : M ≤ 900000000) : AC M (hourS S) := by
  obtain ⟨⟨a1, a2⟩, a3, a4, a5⟩ := h
  have hF : FR (hr1 S) := GB_FR (F := hr1 S) hO.1
  have gn := gs_nn (f := S 0) 8 (fun j hj => (hO.1.1 j hj).1.1)
  have e0 : hourS S 0 = lkg (hr1 S) := rfl
  have e1 : hourS S 12 1 = S 12 1 := rfl
  have e2 : hourS S 12 2 = S 12 2 + sm (lks (hr1 S)) 8 := rfl
  have e3 : hourS S 12 3 = S 12 3 := rfl
  obtain ⟨s1, s2, s3⟩ := gs_sm (f := lks (hr1 S)) 8 (Nat.le_refl 8) (fun j hj => lks_in hF hj)
  have f2 : (S 12 2 + sm (lks (hr1 S)) 8).toInt = (S 12 2).toInt + (sm (lks (hr1 S)) 8).toInt := i_add (by omega) (by omega) (by omega) (by omega)
  have f0 : gs (lkg (hr1 S)) 8 = gs (S 0) 8 - gs (lks (hr1 S)) 8 := gs_sub 8 (fun j hj => (lkg_toInt hF hj).1)
  unfold AC
  rw [e0, e1, e2, e3, f2, f0, s1]
  exact ⟨⟨a1, a2⟩, by omega, a4, by omega⟩
theorem AC_hrs {M : Int} {S : Nat → Nat → Int32} (h : AC M S) (hO : OK S) (hM : M ≤ 900000000) : ∀ i, AC M (hrs S i)
  | 0 => h
  | i + 1 => AC_hour (AC_hrs h hO hM i) (OK_hrs hO i) hM
theorem AC_nxt {M : Int} {S : Nat → Nat → Int32} {c : Int32} {a : Nat} {y : Int32} (h : AC M S) (hO : OK S) (hp : PL c a y) (hM : M ≤ 900000000) : AC (M + 99) (nxt S c a y) := by
  rcases hp with ⟨rfl, h1, h2⟩ | ⟨rfl, h1, h2⟩ | ⟨rfl, h1⟩ | ⟨rfl, h1⟩ | ⟨rfl, h1⟩ | ⟨rfl, h1⟩ | ⟨rfl, h1⟩
  · exact AC_fil h hO h1 h2 hM
  · exact AC_ven h hO h1 h2 hM
  · exact AC_eq (AC_up h (by omega)) rfl rfl rfl rfl
  · exact AC_eq (AC_up h (by omega)) rfl rfl rfl rfl
  · exact AC_eq (AC_up h (by omega)) rfl rfl rfl rfl
  · exact AC_eq (AC_up h (by omega)) rfl rfl rfl rfl
  · exact AC_up (AC_hrs h hO hM a) (by omega)
theorem wk_G {T : Nat → Int32} {n : Nat} {S : Nat → Nat → Int32} (hc : rdS T n = 6 ∨ rdS T n = 7) : ∀ (f i k : Nat) (W : Nat → Nat → Int32) (M : Int), wkI T n S f i k W → i ≤ n → k + f < 1000 → OK W → AC M W → M + 99 * f ≤ 900000000 → OK (wkT T n S).1 ∧ AC (M + 99 * f) (wkT T n S).1 := by
  intro f
  induction f with
  | zero =>
    intro i k W M h hi hk hO hA hM
    have done : (W, k) = wkT T n S → OK (wkT T n S).1 ∧ AC (M + 99 * (0 : Nat)) (wkT T n S).1 := fun e => by
      rw [← e]
      exact ⟨hO, AC_up hA (by omega)⟩
    by_cases c : W 12 6 = -1000
    · by_cases d : prO T n i
      · exact absurd (wk_rd h c d).2 (by omega)
      · exact done (wk_e2 h hi hc c d)
    · exact done (wk_e1 h c)
  | succ f ih =>
    intro i k W M h hi hk hO hA hM
    have done : ∀ W', OK W' → AC M W' → (W', k) = wkT T n S → OK (wkT T n S).1 ∧ AC (M + 99 * (f + 1 : Nat)) (wkT T n S).1 := fun W' hO hA e => by
      rw [← e]
      exact ⟨hO, AC_up hA (by omega)⟩
    by_cases c : W 12 6 = -1000
    · by_cases d : prO T n i
      · by_cases r : rsn W (cod T n i) (pa T n i) (prS T n i) = 0
        · have hp := (part_PL d).1
          obtain ⟨hr, hf⟩ := wk_rd h c d
          obtain ⟨hpn, hpi, hpe⟩ := part_ok hr d
          have hg := wk_go h c hc d r
          have := ih (tkp T n (prP T n i) 59) (k + 1) (nxt W (cod T n i) (pa T n i) (prS T n i)) (M + 99) hg (tk_le (by omega)) (by omega) (OK_nxt hO hp r) (AC_nxt hA hO hp (by omega)) (by omega)
          exact ⟨this.1, AC_up this.2 (by omega)⟩
        · have hs := wk_stop h c d r (by omega) 0 0
          exact done _ (OK_stp hO k _) (AC_eq hA rfl rfl rfl rfl) (wk_e1 hs (by
            have e : stp W k (rsn W (cod T n i) (pa T n i) (prS T n i)) 12 6 = nI k := stp_6 _ _ _
            rw [e]
            exact nI_n1000 (by omega)))
      · exact done W hO hA (wk_e2 h hi hc c d)
    · exact done W hO hA (wk_e1 h c)
/-! .. and of the loop's t -/
theorem GD_M {t : Nat} (ht : t < 1000) : (6100 * t : Int) ≤ 900000 * 10 := by omega
theorem k1_i {p : Prop} [Decidable p] (h : k1 p = 0) : p := Classical.byContradiction fun c => by rw [k1_1 c] at h; exact absurd h (by decide)
theorem k2_i {p q : Prop} [Decidable p] [Decidable q] (h : k2 p q = 0) : p ∧ q := by
  by_cases c : p
  · by_cases d : q
    · exact ⟨c, d⟩
    · rw [k2_2 c d] at h; exact absurd h (by decide)
  · rw [k2_1 c] at h; exact absurd h (by decide)
theorem k3_i {p q r : Prop} [Decidable p] [Decidable q] [Decidable r] (h : k3 p q r = 0) : p ∧ q ∧ r := by
  by_cases c : p
  · by_cases d : q
    · by_cases e : r
      · exact ⟨c, d, e⟩
      · rw [k3_3 c d e] at h; exact absurd h (by decide)
    · rw [k3_2 c d] at h; exact absurd h (by decide)
  · rw [k3_1 c] at h; exact absurd h (by decide)
theorem inR_i {x lo hi : Int32} (h : inR x lo hi) : lo.toInt ≤ x.toInt ∧ x.toInt ≤ hi.toInt := ⟨Int32.le_iff_toInt_le.mp (Int32.not_lt.mp h.1), Int32.le_iff_toInt_le.mp (Int32.not_lt.mp h.2)⟩
theorem isB_i {x : Int32} (h : isB x) : x.toNatClampNeg < 8 := by
  obtain ⟨b, hb, rfl⟩ := bal_of h
  rw [nI_clamp (by omega)]
  exact hb
theorem GD_fil {t : Nat} {S : Nat → Nat → Int32} {x y : Int32} (ht : t < 1000) (h : GD t S) (hK : k3 (isB x) (inR y 1 99) (wn0 S x.toNatClampNeg y = 0) = 0) : GD (t + 1) (mended (filS S x.toNatClampNeg y)) := by
  obtain ⟨h1, h2, h3⟩ := k3_i hK
  exact ⟨OK_fil h.1 (isB_i h1) (inR_i h2) h3, AC_up (AC_fil h.2 h.1 (isB_i h1) (inR_i h2) (by omega)) (by omega)⟩
theorem GD_ven {t : Nat} {S : Nat → Nat → Int32} {x y : Int32} (ht : t < 1000) (h : GD t S) (hK : k3 (isB x) (inR y 1 99) (wn1 S x.toNatClampNeg y = 0) = 0) : GD (t + 1) (mended (venS S x.toNatClampNeg y)) := by
  obtain ⟨h1, h2, h3⟩ := k3_i hK
  exact ⟨OK_ven h.1 (isB_i h1) (inR_i h2) h3, AC_up (AC_ven h.2 h.1 (isB_i h1) (inR_i h2) (by omega)) (by omega)⟩
theorem GD_e {t : Nat} {S S' : Nat → Nat → Int32} (h : GD t S) (hO : OK S') (h0 : S' 0 = S 0) (h1 : S' 12 1 = S 12 1) (h2 : S' 12 2 = S 12 2) (h3 : S' 12 3 = S 12 3) : GD (t + 1) S' := ⟨hO, AC_eq (GD_up h).2 h0 h1 h2 h3⟩
theorem GD_dro {t : Nat} {S : Nat → Nat → Int32} {x : Int32} (h : GD t S) (hK : k2 (isB x) (wn2 S x.toNatClampNeg = 0) = 0) : GD (t + 1) (mended (droS S x.toNatClampNeg)) := GD_e h (OK_dro h.1 (isB_i (k2_i hK).1) (k2_i hK).2) rfl rfl rfl rfl
theorem GD_put {t : Nat} {S : Nat → Nat → Int32} {x : Int32} (h : GD t S) (hK : k2 (isB x) (wn3 S x.toNatClampNeg = 0) = 0) : GD (t + 1) (mended (putS S x.toNatClampNeg)) := GD_e h (OK_put h.1 (isB_i (k2_i hK).1) (k2_i hK).2) rfl rfl rfl rfl
theorem GD_lea {t : Nat} {S : Nat → Nat → Int32} {x y : Int32} (h : GD t S) (hK : k2 (isB x) (inR y 0 9) = 0) : GD (t + 1) (leaS S x.toNatClampNeg y) := GD_e h (OK_lea h.1 (inR_i (k2_i hK).2)) rfl rfl rfl rfl
theorem GD_tie {t : Nat} {S : Nat → Nat → Int32} {x y : Int32} (h : GD t S) (hK : k3 (isR x) (inR y 0 300) (wnt S x.toNatClampNeg y = 0) = 0) : GD (t + 1) (mended (tieS S x.toNatClampNeg y)) := GD_e h (OK_tie h.1 (inR_i (k3_i hK).2.1)) rfl rfl rfl rfl
theorem GD_cut {t : Nat} {S : Nat → Nat → Int32} {x : Int32} (h : GD t S) : GD (t + 1) (mended (cutS S x.toNatClampNeg)) := GD_e h (OK_cut h.1) rfl rfl rfl rfl
theorem GD_bea {t : Nat} {S : Nat → Nat → Int32} {x y : Int32} (h : GD t S) (hK : k2 (isR x) (inR y 0 500) = 0) : GD (t + 1) (beaS S x.toNatClampNeg y) := GD_e h (OK_bea h.1 (inR_i (k2_i hK).2)) rfl rfl rfl rfl
theorem GD_tun {t : Nat} {S : Nat → Nat → Int32} {x y : Int32} (h : GD t S) : GD (t + 1) (tunS S x.toNatClampNeg y) := GD_e h (OK_tun h.1) rfl rfl rfl rfl
theorem GD_not {t : Nat} {S : Nat → Nat → Int32} {x : Int32} (h : GD t S) : GD (t + 1) (notS S (cy S) x.toNatClampNeg) := GD_e h (OK_not h.1) rfl rfl rfl rfl
theorem GD_pas {t : Nat} {S : Nat → Nat → Int32} {x : Int32} (ht : t < 1000) (h : GD t S) : GD (t + 1) (hrs S x.toNatClampNeg) := GD_up ⟨OK_hrs h.1 _, AC_hrs h.2 h.1 (by omega) _⟩
theorem GD_wk {t n : Nat} {T : Nat → Int32} {S : Nat → Nat → Int32} (ht : t < 1000) (hn : n ≤ 60) (h : GD t S) (hc : rdS T n = 6 ∨ rdS T n = 7) : GD (t + 1) (wkT T n S).1 := by
  have := wk_G hc (n + 1) 0 0 (clr S) (6100 * t) (wk_0 T n S) (by omega) (by omega) (OK_clr h.1) (AC_eq h.2 rfl rfl rfl rfl) (by omega)
  exact ⟨this.1, AC_up this.2 (by omega)⟩

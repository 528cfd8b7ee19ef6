/-! looks -/
def Lk (K k rok r : Int32) : Prop := k = K ∧ (K = 0 → r = rok)
theorem Lk_ok {K rok r : Int32} (hK : K = 0) (hr : r = rok) : Lk K 0 rok r := ⟨hK.symm, fun _ => hr⟩
theorem Lk_bad {K k rok r : Int32} (hK : K = k) (hk : ¬ k = 0) : Lk K k rok r := ⟨hK.symm, fun h => absurd (hK.symm.trans h) hk⟩
theorem rib0 {x : Int32} (h : x = 0 ∨ x = 1) : x = b1 (¬ x = 0) := by
  rcases h with h | h <;> subst h <;> rfl
theorem rib_lt {k : Nat} (h : isR (nI k)) (hk : k < 8) : k < 7 := by
  obtain ⟨j, hj, e⟩ := rib_of h
  have := (nI_eq (a := k) (b := j) (by omega) (by omega)).mp e
  omega
theorem in45 {d : Nat} (h : 4 ≤ d) (h2 : d ≤ 5) : inR (nI d) 4 5 := by
  have e4 : (4 : Int32) = nI 4 := rfl
  have e5 : (5 : Int32) = nI 5 := rfl
  refine ⟨fun c => ?_, fun c => ?_⟩
  · rw [e4] at c
    exact absurd ((nI_ltI (by omega) (by decide)).mp c) (by omega)
  · rw [e5] at c
    exact absurd ((nI_ltI (by decide) (by omega)).mp c) (by omega)
theorem enc_sto (B : Nat → Nat → Nat → Int32) {w : Nat} (h : w ≤ 1) : enc B (6 + w) = stoS (B 0) w := by
  rw [enc_at0 B (by omega)]
  rcases (show w = 0 ∨ w = 1 by omega) with rfl | rfl <;> rfl
theorem cnt9 {S : Nat → Nat → Int32} (h6 : S 6 = ht S) (z : Nat) : hsm S = cntS S z 9 := by
  show sm (ht S) 8 = sm (S 6) 8
  rw [h6]
theorem cnt10 {S : Nat → Nat → Int32} (h6 : S 6 = ht S) (z : Nat) : nI (hiN (ht S) 7) = cntS S z 10 := by
  show nI (hiN (ht S) 7) = nI (hiN (S 6) 7)
  rw [h6]
theorem cnt11 {S : Nat → Nat → Int32} (h6 : S 6 = ht S) (z : Nat) : sm (fun j => b1 (ht S j = 0)) 8 = cntS S z 11 := by
  show sm (fun j => b1 (ht S j = 0)) 8 = sm (fun j => b1 (S 6 j = 0)) 8
  rw [h6]
/-! a bag dropped -/
def drM (S : Nat → Nat → Int32) (b : Nat) : Nat → Nat → Int32 := uR S 1 (upd (S 1) b (S 1 b - 1))
theorem dp_m (S : Nat → Nat → Int32) (b : Nat) : dpF S b = mended (drM S b) := rfl
theorem dp_u (S : Nat → Nat → Int32) (b : Nat) : u2 S 1 b (S 1 b + (-1)) = drM S b := by
  have e : S 1 b + (-1) = S 1 b - 1 := (Int32.sub_eq_add_neg _ _).symm
  rw [e]
  rfl
theorem dp_6 (S : Nat → Nat → Int32) (b : Nat) : dpF S b 6 = ht (dpF S b) := by rw [dp_m]; exact mend_6 _
theorem enc_dp (A : Nat → Nat → Nat → Int32) (a : Nat) (S : Nat → Nat → Int32) (b j : Nat) : enc (uA A a (drM S b)) j = enc (uA A a (dpF S b)) j := (enc_m A a (drM S b) (ht (drM S b)) j).symm
theorem GB_dp {S : Nat → Nat → Int32} {b : Nat} (h : GB S) (hb : b < 8) (c : ¬ S 1 b = 0) : GB (dpF S b) := by
  have z : (0 : Int32).toInt = 0 := rfl
  have o : (1 : Int32).toInt = 1 := rfl
  refine ⟨fun j hj => ⟨(h.1 j hj).1, ?_, (h.1 j hj).2.2⟩, fun r hr => h.2 r hr⟩
  show 0 ≤ (upd (S 1) b (S 1 b - 1) j).toInt ∧ (upd (S 1) b (S 1 b - 1) j).toInt ≤ 10
  by_cases e : j = b
  · subst e
    have hb2 := (h.1 j hj).2.1
    have hn : ¬ (S 1 j).toInt = 0 := fun q => c (i_z q)
    rw [upd_s, i_sub (by omega) (by omega) (by omega) (by omega), o]
    omega
  · rw [upd_n _ _ e]
    exact (h.1 j hj).2.1
theorem pul_dp {S : Nat → Nat → Int32} {b r : Nat} (h : GB (dpF S b)) (hr : r < 7) : plR (dpF S b) (ht (dpF S b)) r = pulC (dpF S b) r := by
  have e6 := dp_6 S b
  have i0 := ht_in h (k := r) (by omega)
  have i1 := ht_in h (k := r + 1) (by omega)
  rw [← e6] at i0 i1 ⊢
  exact plR_C rfl rfl i0 i1 (h.2 r hr).2.1
theorem drp0 {S : Nat → Nat → Int32} {b : Nat} (c : ¬ S 1 b = 0) : ht (dpF S b) b = drpS S b 0 := by
  have e : drpS S b 0 = dpF S b 6 b := if_neg c
  rw [e, dp_6]
theorem drp1 {S : Nat → Nat → Int32} {b : Nat} (c : ¬ S 1 b = 0) : hsm (dpF S b) = drpS S b 1 := by
  have e : drpS S b 1 = sm (dpF S b 6) 8 := if_neg c
  rw [e, dp_6]
  rfl
theorem drp2 {S : Nat → Nat → Int32} {b : Nat} (c : ¬ S 1 b = 0) : sm (fun j => b1 (dpF S b 5 j < pulC (dpF S b) j)) 7 = drpS S b 2 := by
  have e : drpS S b 2 = sm (fun j => b1 (dpF S b 5 j < pulC (dpF S b) j)) 7 := if_neg c
  rw [e]
theorem drp_z {S : Nat → Nat → Int32} {b w : Nat} (c : S 1 b = 0) : (-1000) = drpS S b w := by
  unfold drpS
  rw [if_pos c]
theorem sm_in {f : Nat → Int32} (h : ∀ j, j < 8 → 0 ≤ (f j).toInt ∧ (f j).toInt ≤ 999) : 0 ≤ (sm f 8).toInt ∧ (sm f 8).toInt ≤ 7992 := by
  have e := (sm_toInt (f := f) (B := 999) (by decide) 8 h (by decide)).2
  exact ⟨e.1, by omega⟩
theorem drp1_in {S : Nat → Nat → Int32} {b : Nat} (h : GB S) (hb : b < 8) (c : ¬ S 1 b = 0) : 0 ≤ (drpS S b 1).toInt ∧ (drpS S b 1).toInt ≤ 7992 := by
  rw [← drp1 c]
  exact sm_in (fun j hj => ht_in (GB_dp h hb c) hj)
/-! the hours to come -/
theorem AG_A5 {F G : Nat → Nat → Int32} (h : AG F G) : A5 F G := ⟨fun j hj => ⟨(h.1 j hj).1, (h.1 j hj).2.1, (h.1 j hj).2.2.1⟩, h.2⟩
theorem A5_lkg {F G : Nat → Nat → Int32} (h : A5 F G) {j : Nat} (hj : j < 8) : lkg F j = lkg G j := by
  unfold lkg
  rw [(h.1 j hj).1, (h.1 j hj).2.2]
theorem A5_fh {F S : Nat → Nat → Int32} (h : A5 F S) : AG (fh F) (hr2 S) := by
  have e0 : ∀ j, j < 8 → lkg F j = lkg (hr1 S) j := fun j hj => A5_lkg (G := hr1 S) h hj
  refine ⟨fun j hj => ⟨e0 j hj, (h.1 j hj).2.1, (h.1 j hj).2.2, ?_⟩, fun r hr => h.2 r hr⟩
  show ht (uR F 0 (lkg F)) j = ht (uR (hr1 S) 0 (lkg (hr1 S))) j
  exact ht_cg (F := uR F 0 (lkg F)) (G := uR (hr1 S) 0 (lkg (hr1 S))) (fun j hj => ⟨e0 j hj, (h.1 j hj).2.1⟩) (fun r hr => ⟨(h.2 r hr).1, (h.2 r hr).2.1⟩) j
theorem A5_hour {F S : Nat → Nat → Int32} (h : A5 F S) : A5 (fs (fh F)) (hourS S) := by
  have k := A5_fh h
  have f0 : fs (fh F) 0 = lkg F := rfl
  have f1 : fs (fh F) 1 = F 1 := rfl
  have f2 : fs (fh F) 2 = F 2 := rfl
  have f3 : fs (fh F) 3 = snT (fh F) := rfl
  have f4 : fs (fh F) 4 = F 4 := rfl
  have f5 : fs (fh F) 5 = F 5 := rfl
  have g0 : hourS S 0 = lkg (hr1 S) := rfl
  have g1 : hourS S 1 = S 1 := rfl
  have g2 : hourS S 2 = S 2 := rfl
  have g3 : hourS S 3 = snT (hr2 S) := rfl
  have g4 : hourS S 4 = S 4 := rfl
  have g5 : hourS S 5 = S 5 := rfl
  unfold A5
  rw [f0, f1, f2, f3, f4, f5, g0, g1, g2, g3, g4, g5]
  exact ⟨fun j hj => ⟨A5_lkg (G := hr1 S) h hj, (h.1 j hj).2.1, (h.1 j hj).2.2⟩, fun r hr => ⟨ag_snT k hr, (h.2 r hr).2.1, (h.2 r hr).2.2⟩⟩
theorem A5_itf (S : Nat → Nat → Int32) : ∀ i, A5 (itf S i) (hrs S i)
  | 0 => A5_rf S
  | i + 1 => A5_hour (A5_itf S i)
theorem svN_svn (S : Nat → Nat → Int32) (i : Nat) : svN (fh (itf S i)) = svn (hrs S i) := by
  unfold svN svn
  rw [ag_sn (A5_fh (A5_itf S i)) 7 (Nat.le_refl _)]
theorem itf_6 {S : Nat → Nat → Int32} (h6 : S 6 = ht S) (i : Nat) {b : Nat} (hb : b < 8) : itf S i 6 b = ht (hrs S i) b := by
  rw [itf_hM (fun j _ => congrFun h6 j) i b hb]
  exact A5_ht (A5_itf S i) b
theorem nI_n1000 {n : Nat} (h : n < 2 ^ 31) : ¬ nI n = -1000 := fun e => nI_pos h (by rw [e]; decide)
theorem Lnd_no {S : Nat → Nat → Int32} {b : Nat} (N : Nat) : (∀ j, j ≤ N → ¬ itf S j 6 b = 0) → Lnd S N b = -1000 := by
  induction N with
  | zero => intro h; exact if_neg (fun q => h 0 (Nat.le_refl _) q.1)
  | succ n ih =>
    intro h
    show (if itf S (n + 1) 6 b = 0 ∧ Lnd S n b = -1000 then nI (n + 1) else Lnd S n b) = -1000
    rw [if_neg (fun q => h (n + 1) (Nat.le_refl _) q.1)]
    exact ih (fun j hj => h j (by omega))
theorem Lnd_yes {S : Nat → Nat → Int32} {b n : Nat} (hn : n < 1000) (h : ∀ j, j < n → ¬ itf S j 6 b = 0) (h0 : itf S n 6 b = 0) (N : Nat) : n ≤ N → Lnd S N b = nI n := by
  induction N with
  | zero =>
    intro hN
    have e : n = 0 := by omega
    subst e
    exact if_pos ⟨h0, rfl⟩
  | succ m ih =>
    intro hN
    show (if itf S (m + 1) 6 b = 0 ∧ Lnd S m b = -1000 then nI (m + 1) else Lnd S m b) = nI n
    by_cases c : n ≤ m
    · rw [ih c, if_neg (fun q => nI_n1000 (by omega) q.2)]
    · have e : n = m + 1 := by omega
      subst e
      rw [if_pos ⟨h0, Lnd_no m (fun j hj => h j (by omega))⟩]
theorem Fst_no {S : Nat → Nat → Int32} (N : Nat) : (∀ j, j < N → svn (hrs S j) ≤ 0) → Fst S N = -1000 := by
  induction N with
  | zero => intro h; rfl
  | succ n ih =>
    intro h
    show (if 0 < svN (fh (itf S n)) ∧ Fst S n = -1000 then nI (n + 1) else Fst S n) = -1000
    rw [if_neg (fun q => absurd q.1 (by rw [svN_svn]; exact Int32.not_lt.mpr (h n (Nat.lt_succ_self n))))]
    exact ih (fun j hj => h j (by omega))
theorem Fst_yes {S : Nat → Nat → Int32} {n : Nat} (hn : n < 1000) (h : ∀ j, j < n → svn (hrs S j) ≤ 0) (h0 : ¬ svn (hrs S n) ≤ 0) (N : Nat) : n < N → Fst S N = nI (n + 1) := by
  induction N with
  | zero => intro hN; omega
  | succ m ih =>
    intro hN
    show (if 0 < svN (fh (itf S m)) ∧ Fst S m = -1000 then nI (m + 1) else Fst S m) = nI (n + 1)
    by_cases c : n < m
    · rw [ih c, if_neg (fun q => nI_n1000 (by omega) q.2)]
    · have e : n = m := by omega
      subst e
      rw [if_pos ⟨by rw [svN_svn]; exact Int32.not_le.mp h0, Fst_no n h⟩]
/-! the best bag: f what the reference has found, g its sum -/
def bbI (S : Nat → Nat → Int32) (i : Nat) (f g : Int32) : Prop := (f = -1000 ∧ g = 0 ∧ bb S i = (-1000, -1000)) ∨ (¬ f = -1000 ∧ bb S i = (f, g) ∧ 0 ≤ g.toInt)
theorem bbI_1 {S : Nat → Nat → Int32} {i : Nat} {f g : Int32} (h : bbI S i f g) : f = (bb S i).1 := by
  rcases h with ⟨h1, -, h3⟩ | ⟨-, h2, -⟩
  · rw [h3, h1]
  · rw [h2]
/-- no bag, or one that lifts no more -/
theorem bbI_n1 {S : Nat → Nat → Int32} {i : Nat} {f g : Int32} (h : bbI S i f g) (c : drpS S i 1 = -1000) : bbI S (i + 1) f g := by
  have z : (-1000 : Int32).toInt = -1000 := rfl
  have k : bb S (i + 1) = bb S i := by
    refine bb_n ?_
    rw [c]
    rcases h with ⟨h1, h2, h3⟩ | ⟨h1, h2, h3⟩
    · rw [h3]; decide
    · rw [h2]; exact Int32.le_iff_toInt_le.mpr (by show (-1000 : Int32).toInt ≤ g.toInt; omega)
  unfold bbI
  rw [k]
  exact h
theorem bbI_n2 {S : Nat → Nat → Int32} {i : Nat} {f g : Int32} (h : bbI S i f g) (c : ¬ f = -1000) (d : drpS S i 1 ≤ g) : bbI S (i + 1) f g := by
  have k : bb S (i + 1) = bb S i := by
    refine bb_n ?_
    rcases h with ⟨h1, h2, h3⟩ | ⟨h1, h2, h3⟩
    · exact absurd h1 c
    · rw [h2]; exact d
  unfold bbI
  rw [k]
  exact h
theorem bbI_y {S : Nat → Nat → Int32} {i : Nat} {f g : Int32} (hS : GB S) (hi : i < 8) (h : bbI S i f g) (c : ¬ drpS S i 1 = -1000) (d : f = -1000 ∨ ¬ drpS S i 1 ≤ g) : bbI S (i + 1) (nI i) (drpS S i 1) := by
  have z : (-1000 : Int32).toInt = -1000 := rfl
  have c1 : ¬ S 1 i = 0 := fun q => c (drp_z q).symm
  have hb := drp1_in hS hi c1
  have k : bb S (i + 1) = (nI i, drpS S i 1) := by
    refine bb_y (fun q => ?_)
    rcases h with ⟨h1, h2, h3⟩ | ⟨h1, h2, h3⟩
    · rw [h3] at q
      have q2 := Int32.le_iff_toInt_le.mp q
      have e : ((-1000 : Int32), (-1000 : Int32)).2.toInt = -1000 := rfl
      omega
    · rw [h2] at q
      exact d.elim h1 (fun w => w q)
  exact Or.inr ⟨nI_n1000 (by omega), k, hb.1⟩

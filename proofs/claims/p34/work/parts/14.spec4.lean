/-! the hours to come, hour by hour; they stand still once nothing leaks and nothing snaps -/
def fh (G : Nat → Nat → Int32) : Nat → Nat → Int32 := uR (uR G 0 (lkg G)) 6 (ht (uR G 0 (lkg G)))
def fs (G : Nat → Nat → Int32) : Nat → Nat → Int32 := uR (uR G 3 (snT G)) 6 (ht (uR G 3 (snT G)))
def itf (F : Nat → Nat → Int32) : Nat → Nat → Nat → Int32
  | 0 => F
  | i + 1 => fs (fh (itf F i))
def svN (G : Nat → Nat → Int32) : Int32 := if (sn G 7).1 = -1000 then 0 else 1
def Lnd (F : Nat → Nat → Int32) : Nat → Nat → Int32
  | 0 => mkL F (fun _ => -1000) 0
  | i + 1 => mkL (itf F (i + 1)) (Lnd F i) (i + 1)
def Fst (F : Nat → Nat → Int32) : Nat → Int32
  | 0 => -1000
  | i + 1 => if 0 < svN (fh (itf F i)) ∧ Fst F i = -1000 then nI (i + 1) else Fst F i
theorem fh_hM (G : Nat → Nat → Int32) (j : Nat) : fh G 6 j = ht (fh G) j := by
  have e : fh G 6 = ht (uR G 0 (lkg G)) := rfl
  rw [e]
  exact ht_rows (F := uR G 0 (lkg G)) (G := fh G) rfl rfl rfl rfl j
theorem fs_hM (G : Nat → Nat → Int32) (j : Nat) : fs G 6 j = ht (fs G) j := by
  have e : fs G 6 = ht (uR G 3 (snT G)) := rfl
  rw [e]
  exact ht_rows (F := uR G 3 (snT G)) (G := fs G) rfl rfl rfl rfl j
/-- alike, as far as balloons and ribbons go -/
def AG (F G : Nat → Nat → Int32) : Prop := (∀ j, j < 8 → F 0 j = G 0 j ∧ F 1 j = G 1 j ∧ F 2 j = G 2 j ∧ F 6 j = G 6 j) ∧ ∀ r, r < 7 → F 3 r = G 3 r ∧ F 4 r = G 4 r ∧ F 5 r = G 5 r
theorem ag_rf (F : Nat → Nat → Int32) : AG F F := ⟨fun _ _ => ⟨rfl, rfl, rfl, rfl⟩, fun _ _ => ⟨rfl, rfl, rfl⟩⟩
theorem ag_sy {F G : Nat → Nat → Int32} (h : AG F G) : AG G F := ⟨fun j hj => ⟨(h.1 j hj).1.symm, (h.1 j hj).2.1.symm, (h.1 j hj).2.2.1.symm, (h.1 j hj).2.2.2.symm⟩, fun j hj => ⟨(h.2 j hj).1.symm, (h.2 j hj).2.1.symm, (h.2 j hj).2.2.symm⟩⟩
theorem ag_tr {F G K : Nat → Nat → Int32} (h : AG F G) (k : AG G K) : AG F K := ⟨fun j hj => ⟨(h.1 j hj).1.trans (k.1 j hj).1, (h.1 j hj).2.1.trans (k.1 j hj).2.1, (h.1 j hj).2.2.1.trans (k.1 j hj).2.2.1, (h.1 j hj).2.2.2.trans (k.1 j hj).2.2.2⟩, fun j hj => ⟨(h.2 j hj).1.trans (k.2 j hj).1, (h.2 j hj).2.1.trans (k.2 j hj).2.1, (h.2 j hj).2.2.trans (k.2 j hj).2.2⟩⟩
theorem ag_ht {F G : Nat → Nat → Int32} (h : AG F G) (k : Nat) : ht F k = ht G k := ht_cg (fun j hj => ⟨(h.1 j hj).1, (h.1 j hj).2.1⟩) (fun j hj => ⟨(h.2 j hj).1, (h.2 j hj).2.1⟩) k
theorem ag_wt {F G : Nat → Nat → Int32} (h : AG F G) {b : Nat} (hb : b < 8) : wt F b = wt G b := wt_cg (h.1 b hb).1 (h.1 b hb).2.1
theorem ag_upr {F G : Nat → Nat → Int32} (h : AG F G) {r : Nat} (hr : r < 7) : upr F r = upr G r := by
  unfold upr
  rw [(h.2 r hr).2.1, ag_wt h (b := r) (by omega), ag_wt h (b := r + 1) (by omega), (h.1 r (by omega)).2.2.2, (h.1 (r + 1) (by omega)).2.2.2]
theorem ag_pul {F G : Nat → Nat → Int32} (h : AG F G) {r : Nat} (hr : r < 7) : pulC F r = pulC G r := by
  have e := ag_upr h hr
  have hle := upr_le G r
  have h6 : ∀ j, j < 8 → F 6 j = G 6 j := fun j hj => (h.1 j hj).2.2.2
  have e2 : F 6 (if upr G r = r then r + 1 else r) = G 6 (if upr G r = r then r + 1 else r) := by
    apply h6
    by_cases c : upr G r = r
    · rw [if_pos c]; omega
    · rw [if_neg c]; omega
  unfold pulC
  rw [e, (h.2 r hr).1, e2, h6 (upr G r) (by omega), ag_wt h (b := upr G r) (by omega), (h.2 r hr).2.1]
theorem ag_sn {F G : Nat → Nat → Int32} (h : AG F G) : ∀ n, n ≤ 7 → sn F n = sn G n
  | 0, _ => rfl
  | n + 1, hn => by
    simp only [sn]
    rw [ag_pul h (r := n) (by omega), (h.2 n (by omega)).2.2, ag_sn h n (by omega)]
theorem sn_1000 {F : Nat → Nat → Int32} (h : svN F ≤ 0) : (sn F 7).1 = -1000 := by
  by_cases c : (sn F 7).1 = -1000
  · exact c
  · unfold svN at h
    rw [if_neg c] at h
    exact absurd h (by decide)
theorem ag_fh {F G : Nat → Nat → Int32} (h : AG F G) : AG (fh F) (fh G) := by
  have e0 : ∀ j, j < 8 → lkg F j = lkg G j := fun j hj => by unfold lkg; rw [(h.1 j hj).1, (h.1 j hj).2.2.1]
  refine ⟨fun j hj => ⟨e0 j hj, (h.1 j hj).2.1, (h.1 j hj).2.2.1, ?_⟩, fun r hr => h.2 r hr⟩
  show ht (uR F 0 (lkg F)) j = ht (uR G 0 (lkg G)) j
  exact ht_cg (F := uR F 0 (lkg F)) (G := uR G 0 (lkg G)) (fun j hj => ⟨e0 j hj, (h.1 j hj).2.1⟩) (fun r hr => ⟨(h.2 r hr).1, (h.2 r hr).2.1⟩) j
theorem ag_snT {F G : Nat → Nat → Int32} (h : AG F G) {r : Nat} (hr : r < 7) : snT F r = snT G r := by
  unfold snT
  rw [ag_sn h 7 (Nat.le_refl _)]
  by_cases c : (sn G 7).1 = -1000
  · rw [if_pos c, if_pos c]; exact (h.2 r hr).1
  · rw [if_neg c, if_neg c]
    unfold upd
    by_cases e : r = (sn G 7).1.toNatClampNeg
    · rw [if_pos e, if_pos e]
    · rw [if_neg e, if_neg e]; exact (h.2 r hr).1
theorem ag_fs {F G : Nat → Nat → Int32} (h : AG F G) : AG (fs F) (fs G) := by
  have e3 : ∀ r, r < 7 → snT F r = snT G r := fun r hr => ag_snT h hr
  refine ⟨fun j hj => ⟨(h.1 j hj).1, (h.1 j hj).2.1, (h.1 j hj).2.2.1, ?_⟩, fun r hr => ⟨e3 r hr, (h.2 r hr).2.1, (h.2 r hr).2.2⟩⟩
  show ht (uR F 3 (snT F)) j = ht (uR G 3 (snT G)) j
  exact ht_cg (F := uR F 3 (snT F)) (G := uR G 3 (snT G)) (fun j hj => ⟨(h.1 j hj).1, (h.1 j hj).2.1⟩) (fun r hr => ⟨e3 r hr, (h.2 r hr).2.1⟩) j
/-- gas and leaks in their bounds -/
def FR (F : Nat → Nat → Int32) : Prop := ∀ j, j < 8 → 0 ≤ (F 0 j).toInt ∧ (F 0 j).toInt ≤ 200 ∧ 0 ≤ (F 2 j).toInt ∧ (F 2 j).toInt ≤ 9
theorem mn_toInt (x y : Int32) : (mn x y).toInt = if y.toInt < x.toInt then y.toInt else x.toInt := by
  unfold mn
  by_cases h : y < x
  · rw [if_pos h, if_pos (Int32.lt_iff_toInt_lt.mp h)]
  · rw [if_neg h, if_neg (fun z => h (Int32.lt_iff_toInt_lt.mpr z))]
theorem mx_toInt (x y : Int32) : (mx x y).toInt = if x.toInt < y.toInt then y.toInt else x.toInt := by
  unfold mx
  by_cases h : x < y
  · rw [if_pos h, if_pos (Int32.lt_iff_toInt_lt.mp h)]
  · rw [if_neg h, if_neg (fun z => h (Int32.lt_iff_toInt_lt.mpr z))]
theorem i_add {x y : Int32} (h : -1000000000 ≤ x.toInt) (h2 : x.toInt ≤ 1000000000) (h3 : -1000000000 ≤ y.toInt) (h4 : y.toInt ≤ 1000000000) : (x + y).toInt = x.toInt + y.toInt := by
  rw [Int32.toInt_add]
  exact Int.bmod_eq_of_le (by omega) (by omega)
theorem i_sub {x y : Int32} (h : -1000000000 ≤ x.toInt) (h2 : x.toInt ≤ 1000000000) (h3 : -1000000000 ≤ y.toInt) (h4 : y.toInt ≤ 1000000000) : (x - y).toInt = x.toInt - y.toInt := by
  rw [Int32.toInt_sub]
  exact Int.bmod_eq_of_le (by omega) (by omega)
theorem lks_in {F : Nat → Nat → Int32} (h : FR F) {j : Nat} (hj : j < 8) : 0 ≤ (lks F j).toInt ∧ (lks F j).toInt ≤ 9 := by
  obtain ⟨a, b, c, d⟩ := h j hj
  unfold lks
  rw [mn_toInt]
  split <;> omega
theorem lkg_toInt {F : Nat → Nat → Int32} (h : FR F) {j : Nat} (hj : j < 8) : (lkg F j).toInt = (F 0 j).toInt - (lks F j).toInt ∧ (lks F j).toInt ≤ (F 0 j).toInt := by
  obtain ⟨a, b, c, d⟩ := h j hj
  have e := lks_in h hj
  refine ⟨i_sub (by omega) (by omega) ?_ ?_, ?_⟩
  · show -1000000000 ≤ (lks F j).toInt; omega
  · show (lks F j).toInt ≤ 1000000000; omega
  · unfold lks
    rw [mn_toInt]
    split <;> omega
theorem FR_fs {F : Nat → Nat → Int32} (h : FR F) : FR (fs (fh F)) := by
  intro j hj
  obtain ⟨a, b, c, d⟩ := h j hj
  obtain ⟨e, f⟩ := lkg_toInt h hj
  have g := lks_in h hj
  have e2 : fs (fh F) 0 j = lkg F j := rfl
  have e3 : fs (fh F) 2 j = F 2 j := rfl
  rw [e2, e3, e]
  omega
theorem FR_itf {F : Nat → Nat → Int32} (h : FR F) : ∀ i, FR (itf F i)
  | 0 => h
  | i + 1 => FR_fs (FR_itf h i)
theorem sm_toInt {f : Nat → Int32} {B : Int} (hB : 0 ≤ B) : ∀ n, (∀ j, j < n → 0 ≤ (f j).toInt ∧ (f j).toInt ≤ B) → B * n ≤ 1000000000 → (∀ j, j < n → (f j).toInt ≤ (sm f n).toInt) ∧ 0 ≤ (sm f n).toInt ∧ (sm f n).toInt ≤ B * n
  | 0, _, _ => ⟨fun j hj => absurd hj (Nat.not_lt_zero j), (by decide : (0 : Int) ≤ (0 : Int32).toInt), by simp [sm]⟩
  | n + 1, h, hn => by
    have hn' : B * (n + 1 : Nat) = B * n + B := by rw [Int.natCast_add, Int.mul_add]; simp
    obtain ⟨h1, h2, h3⟩ := sm_toInt hB n (fun j hj => h j (by omega)) (by omega)
    obtain ⟨a, b⟩ := h n (by omega)
    have e : (sm f (n + 1)).toInt = (sm f n).toInt + (f n).toInt := i_add (by omega) (by omega) (by omega) (by omega)
    rw [e]
    refine ⟨fun j hj => ?_, by omega, by omega⟩
    rcases Nat.lt_or_ge j n with q | q
    · have := h1 j q; omega
    · have : j = n := by omega
      subst this; omega
theorem lks_0 {F : Nat → Nat → Int32} (h : FR F) (c : sm (lks F) 8 ≤ 0) {j : Nat} (hj : j < 8) : lks F j = 0 := by
  have h1 := (sm_toInt (f := lks F) (B := 9) (by decide) 8 (fun j hj => lks_in h hj) (by decide)).1 j hj
  have h2 := lks_in h hj
  have h3 := Int32.le_iff_toInt_le.mp c
  have h4 : (0 : Int32).toInt = 0 := rfl
  exact Int32.toInt_inj.mp (by rw [h4] at h3 ⊢; omega)
/-- nothing leaks, nothing snaps: nothing changes -/
theorem still {G : Nat → Nat → Int32} (h : FR G) (hM : ∀ j, j < 8 → G 6 j = ht G j) (c : sm (lks G) 8 ≤ 0) (d : svN (fh G) ≤ 0) : AG (fs (fh G)) G := by
  have e0 : ∀ j, j < 8 → lkg G j = G 0 j := fun j hj => by
    have h1 := lks_0 h c hj
    unfold lkg
    show G 0 j - lks G j = G 0 j
    rw [h1, Int32.sub_zero]
  have eT : snT (fh G) = G 3 := by rw [snT_z (sn_1000 d)]; rfl
  refine ⟨fun j hj => ⟨e0 j hj, rfl, rfl, ?_⟩, fun r hr => ⟨by show snT (fh G) r = G 3 r; rw [eT], rfl, rfl⟩⟩
  show ht (uR (fh G) 3 (snT (fh G))) j = G 6 j
  rw [hM j hj, eT]
  exact ht_cg (F := uR (fh G) 3 (G 3)) (G := G) (fun j hj => ⟨e0 j hj, rfl⟩) (fun _ _ => ⟨rfl, rfl⟩) j
theorem itf_hM {F : Nat → Nat → Int32} (hM : ∀ j, j < 8 → F 6 j = ht F j) : ∀ i j, j < 8 → itf F i 6 j = ht (itf F i) j
  | 0, j, hj => hM j hj
  | i + 1, j, _ => fs_hM (fh (itf F i)) j
theorem itf_still {F : Nat → Nat → Int32} (h : FR F) (hM : ∀ j, j < 8 → F 6 j = ht F j) {i : Nat} (c : sm (lks (itf F i)) 8 ≤ 0) (d : svN (fh (itf F i)) ≤ 0) : ∀ n, AG (itf F (i + n)) (itf F i)
  | 0 => ag_rf _
  | n + 1 => ag_tr (ag_fs (ag_fh (itf_still h hM c d n))) (still (FR_itf h i) (itf_hM hM i) c d)
theorem svN_cg {F G : Nat → Nat → Int32} (h : AG F G) : svN F = svN G := by
  unfold svN
  rw [ag_sn h 7 (Nat.le_refl _)]
theorem Fst_still {F : Nat → Nat → Int32} (h : FR F) (hM : ∀ j, j < 8 → F 6 j = ht F j) {i : Nat} (c : sm (lks (itf F i)) 8 ≤ 0) (d : svN (fh (itf F i)) ≤ 0) : ∀ n, Fst F (i + n) = Fst F i
  | 0 => rfl
  | n + 1 => by
    have e : Fst F (i + (n + 1)) = if 0 < svN (fh (itf F (i + n))) ∧ Fst F (i + n) = -1000 then nI (i + n + 1) else Fst F (i + n) := rfl
    rw [e, svN_cg (ag_fh (itf_still h hM c d n)), if_neg (fun z => absurd z.1 (Int32.not_lt.mpr d)), Fst_still h hM c d n]
theorem mkL_cg {G K : Nat → Nat → Int32} {L M : Nat → Int32} {h j : Nat} (a : G 6 j = K 6 j) (b : L j = M j) : mkL G L h j = mkL K M h j := by
  unfold mkL
  rw [a, b]
theorem mkL_two {G K : Nat → Nat → Int32} {L : Nat → Int32} {h h2 j : Nat} (a : K 6 j = G 6 j) (b : h < 2 ^ 31) : mkL K (mkL G L h) h2 j = mkL G L h j := by
  unfold mkL
  rw [a]
  by_cases c : G 6 j = 0 ∧ L j = -1000
  · rw [if_pos c]
    rw [if_neg (fun z => absurd z.2 (fun e => nI_pos b (by rw [e]; decide)))]
  · rw [if_neg c, if_neg c]
theorem Lnd_form (F : Nat → Nat → Int32) : ∀ i, ∃ L : Nat → Int32, Lnd F i = mkL (itf F i) L i
  | 0 => ⟨_, rfl⟩
  | i + 1 => ⟨_, rfl⟩
theorem Lnd_still {F : Nat → Nat → Int32} (h : FR F) (hM : ∀ j, j < 8 → F 6 j = ht F j) {i : Nat} (hi : i < 1000) (c : sm (lks (itf F i)) 8 ≤ 0) (d : svN (fh (itf F i)) ≤ 0) {j : Nat} (hj : j < 8) : ∀ n, Lnd F (i + n) j = Lnd F i j
  | 0 => rfl
  | n + 1 => by
    have e : Lnd F (i + (n + 1)) = mkL (itf F (i + n + 1)) (Lnd F (i + n)) (i + n + 1) := rfl
    have a : itf F (i + n + 1) 6 j = itf F i 6 j := ((itf_still h hM c d (n + 1)).1 j hj).2.2.2
    obtain ⟨L, hL⟩ := Lnd_form F i
    rw [e, mkL_cg (K := itf F i) (M := Lnd F i) a (Lnd_still h hM hi c d hj n), hL]
    exact mkL_two rfl (by omega)
def flw (f : Nat → Int32) (x : Int32) (i : Nat) : Nat → Int32 := fun j => if j < i then x else f j
theorem flw_0 (f : Nat → Int32) (x : Int32) (j : Nat) : flw f x 0 j = f j := if_neg (Nat.not_lt_zero j)
theorem flw_s (f : Nat → Int32) (x : Int32) {i : Nat} (j : Nat) : upd (flw f x i) i x j = flw f x (i + 1) j := congrFun (up_lt (f := f) (g := fun _ => x) rfl) j
theorem flw_o (f : Nat → Int32) (x : Int32) {i j : Nat} (h : j < i) : flw f x i j = x := if_pos h
theorem Fst_y {F : Nat → Nat → Int32} {i : Nat} (a : ¬ svN (fh (itf F i)) ≤ 0) (b : Fst F i = -1000) : nI (i + 1) = Fst F (i + 1) := (if_pos ⟨Int32.not_le.mp a, b⟩).symm
theorem Fst_n1 {F : Nat → Nat → Int32} {i : Nat} (a : svN (fh (itf F i)) ≤ 0) : Fst F i = Fst F (i + 1) := (if_neg (fun z => absurd z.1 (Int32.not_lt.mpr a))).symm
theorem Fst_n2 {F : Nat → Nat → Int32} {i : Nat} (a : ¬ Fst F i = -1000) : Fst F i = Fst F (i + 1) := (if_neg (fun z => a z.2)).symm
theorem la_o1 {F : Nat → Nat → Int32} {i N : Nat} (hN : N = 200) (hi : i ≤ 200) (c : 200 < i + 1) : (AG (itf F N) (itf F i)) ∧ (∀ j, j < 8 → Lnd F N j = Lnd F i j) ∧ Fst F N = Fst F i := by
  have e : i = N := by omega
  subst e
  exact ⟨ag_rf _, fun _ _ => rfl, rfl⟩
theorem la_o2 {F : Nat → Nat → Int32} {N : Nat} (hN : N = 200) (h : FR F) (hM : ∀ j, j < 8 → F 6 j = ht F j) {i : Nat} {gg : Int32} (hi : i ≤ 200) (c : gg = 0) (hg : gg = 1 ∨ (gg = 0 ∧ 1 ≤ i ∧ sm (lks (itf F (i - 1))) 8 ≤ 0 ∧ svN (fh (itf F (i - 1))) ≤ 0)) : (AG (itf F N) (itf F i)) ∧ (∀ j, j < 8 → Lnd F N j = Lnd F i j) ∧ Fst F N = Fst F i := by
  rcases hg with hg | ⟨-, h1, h2, h3⟩
  · rw [c] at hg; exact absurd hg (by decide)
  · obtain ⟨k, rfl⟩ : ∃ k, i = k + 1 := ⟨i - 1, by omega⟩
    rw [Nat.add_sub_cancel] at h2 h3
    have e : N = k + (N - k) := by omega
    have s1 := itf_still h hM h2 h3 (N - k)
    have s2 := itf_still h hM h2 h3 1
    have t1 := Fst_still h hM h2 h3 (N - k)
    have t2 := Fst_still h hM h2 h3 1
    rw [← e] at s1 t1
    refine ⟨ag_tr s1 (ag_sy s2), fun j hj => ?_, t1.trans t2.symm⟩
    have u1 := Lnd_still h hM (by omega) h2 h3 hj (N - k)
    have u2 := Lnd_still h hM (by omega) h2 h3 hj 1
    rw [← e] at u1
    exact u1.trans u2.symm

/-! the law's deeds: what a number of the script does to a state, and what it answers -/
def psP (S : Nat → Nat → Int32) (n : Nat) : (Nat → Nat → Int32) × Int32 := (hrs S n, hrs S n 12 4 - S 12 4)
def aFil (y : Int32) (S : Nat → Nat → Int32) : (Nat → Nat → Int32) × Int32 := if wn0 S (upN y 8) 1 = 0 then (if 200 < S 0 (upN y 8) + nI (1 + upN (sh9 y 3) 99) then psP S 1 else (mended (filS S (upN y 8) (nI (1 + upN (sh9 y 3) 99))), S 0 (upN y 8) + nI (1 + upN (sh9 y 3) 99))) else psP S 1
def aVen (y : Int32) (S : Nat → Nat → Int32) : (Nat → Nat → Int32) × Int32 := if S 0 (upN y 8) < nI (1 + upN (sh9 y 3) 99) then psP S 2 else (mended (venS S (upN y 8) (nI (1 + upN (sh9 y 3) 99))), ht (venS S (upN y 8) (nI (1 + upN (sh9 y 3) 99))) (upN y 8))
def aDro (y : Int32) (S : Nat → Nat → Int32) : (Nat → Nat → Int32) × Int32 := if wn2 S (upN y 8) = 0 then (mended (droS S (upN y 8)), ht (droS S (upN y 8)) (upN y 8)) else psP S 1
def aLea (y : Int32) (S : Nat → Nat → Int32) : (Nat → Nat → Int32) × Int32 := (leaS S (upN y 8) (nI (upN (sh9 y 3) 10)), S 2 (upN y 8))
def aPut (y : Int32) (S : Nat → Nat → Int32) : (Nat → Nat → Int32) × Int32 := if wn3 S (upN y 8) = 0 then (mended (putS S (upN y 8)), S 1 (upN y 8) + 1) else aLea y S
def aTun (y : Int32) (S : Nat → Nat → Int32) : (Nat → Nat → Int32) × Int32 := (tunS S (upN y 8) (nI (upN (sh9 y 3) 41) - 20), tel S (upN y 8))
def aNot (y : Int32) (S : Nat → Nat → Int32) : (Nat → Nat → Int32) × Int32 := (notS S (cy S) (upN y 8), tel S (upN y 8))
def aRib (y : Int32) (S : Nat → Nat → Int32) : (Nat → Nat → Int32) × Int32 := if wn5 S (upN y 7) = 0 then (mended (cutS S (upN y 7)), sm (ht (cutS S (upN y 7))) 8 - sm (S 6) 8) else if wnt S (upN y 7) 100 = 0 then (mended (tieS S (upN y 7) (nI (100 + upN (sh9 y 3) 201))), nI (se (mended (tieS S (upN y 7) (nI (100 + upN (sh9 y 3) 201)))) (7 - upN y 7) (upN y 7) - ss (mended (tieS S (upN y 7) (nI (100 + upN (sh9 y 3) 201)))) (upN y 7) + 1)) else (beaS S (upN y 7) (nI (upN (sh9 y 3) 501)), S 5 (upN y 7))
def aBea (y : Int32) (S : Nat → Nat → Int32) : (Nat → Nat → Int32) × Int32 := if sh9 y 12 &&& 1 = 0 then (beaS S (upN y 7) (nI (upN (sh9 y 3) 501)), S 5 (upN y 7)) else (beaS S (upN y 7) (nI (upN (sh9 y 3) 50)), S 5 (upN y 7))
def aBak (y : Int32) (S S7 : Nat → Nat → Int32) : (Nat → Nat → Int32) × Int32 := if y &&& 3 = 0 then (S7, S7 12 0) else psP S 3
def aPas (y : Int32) (S : Nat → Nat → Int32) : (Nat → Nat → Int32) × Int32 := if sh9 y 8 &&& 3 = 0 then psP S (1 + upN y 25) else psP S (1 + upN y 4)
def acP (q : Nat) (y : Int32) (S S7 : Nat → Nat → Int32) : (Nat → Nat → Int32) × Int32 := if q < 2 then aFil y S else if q < 4 then aVen y S else if q < 7 then aDro y S else if q = 7 then aPut y S else if q = 8 then aLea y S else if q = 9 then aTun y S else if q < 12 then aNot y S else if q < 14 then aRib y S else if q = 14 then aBea y S else if q = 15 then aBak y S S7 else aPas y S
theorem nI_leq {a b : Nat} (h : a ≤ b) (hb : b < 2 ^ 31) : nI a ≤ nI b := (nI_leI (by omega) hb).mpr h
theorem nI_nl {a b : Nat} (h : b ≤ a) (ha : a < 2 ^ 31) : ¬ nI a < nI b := fun q => absurd ((nI_ltI ha (by omega)).mp q) (by omega)
theorem am_i {u : Nat} (h : u < 99) : 1 ≤ (nI (1 + u)).toInt ∧ (nI (1 + u)).toInt ≤ 99 := by rw [nI_toInt (by omega)]; omega
theorem nat_i {u n : Nat} (h : u ≤ n) (hn : n < 2 ^ 31) : 0 ≤ (nI u).toInt ∧ (nI u).toInt ≤ n := by rw [nI_toInt (by omega)]; omega
theorem wn0_w {S : Nat → Nat → Int32} {k : Nat} {x : Int32} (c : wn0 S k 1 = 0) (d : ¬ 200 < S 0 k + x) : wn0 S k x = 0 := by
  unfold wn0 at c ⊢
  rw [if_neg d]
  by_cases e : 200 < S 0 k + 1
  · rw [if_pos e] at c; exact absurd c (by decide)
  · rw [if_neg e] at c; exact c
theorem tu_i {u : Nat} (h : u < 41) : (nI u - 20).toInt = (u : Int) - 20 := by
  have e : (20 : Int32).toInt = 20 := rfl
  have e2 := nI_toInt (n := u) (by omega)
  rw [i_sub (by omega) (by omega) (by decide) (by decide), e, e2]
theorem tu_1 {u : Nat} (h : u < 41) : ¬ nI u - 20 < (-20) := fun q => by
  have q2 := Int32.lt_iff_toInt_lt.mp q
  have e : (-20 : Int32).toInt = -20 := by decide
  rw [tu_i h, e] at q2
  omega
theorem tu_2 {u : Nat} (h : u < 41) : nI u - 20 ≤ 20 := Int32.le_iff_toInt_le.mpr (by
  have e : (20 : Int32).toInt = 20 := rfl
  rw [tu_i h, e]
  omega)
theorem PD_ac {t q : Nat} {y : Int32} {S S7 : Nat → Nat → Int32} (ht : t < 1000) (h : PD t S) (h7 : PD t S7) : PD (t + 1) (acP q y S S7).1 := by
  have k8 : upN y 8 < 8 := up_lt9 _ (by decide)
  have k7 : upN y 7 < 7 := up_lt9 _ (by decide)
  have u99 : upN (sh9 y 3) 99 < 99 := up_lt9 _ (by decide)
  have u10 : upN (sh9 y 3) 10 < 10 := up_lt9 _ (by decide)
  have u201 : upN (sh9 y 3) 201 < 201 := up_lt9 _ (by decide)
  have u501 : upN (sh9 y 3) 501 < 501 := up_lt9 _ (by decide)
  have u50 : upN (sh9 y 3) 50 < 50 := up_lt9 _ (by decide)
  have u25 : upN y 25 < 25 := up_lt9 _ (by decide)
  have u4 : upN y 4 < 4 := up_lt9 _ (by decide)
  have hp : ∀ n, n ≤ 99 → PD (t + 1) (psP S n).1 := fun n hn => PD_pas ht hn h
  have hl : PD (t + 1) (aLea y S).1 := PD_lea h (nat_i (n := 9) (by omega) (by decide))
  have hb1 : PD (t + 1) (beaS S (upN y 7) (nI (upN (sh9 y 3) 501))) := PD_bea h (nat_i (n := 500) (by omega) (by decide))
  have hb2 : PD (t + 1) (beaS S (upN y 7) (nI (upN (sh9 y 3) 50))) := PD_bea h (by have := nat_i (u := upN (sh9 y 3) 50) (n := 50) (by omega) (by decide); omega)
  unfold acP
  split
  · unfold aFil
    split
    · rename_i c
      split
      · exact hp 1 (by decide)
      · rename_i d
        exact PD_fil ht h k8 (am_i u99) (wn0_w c d)
    · exact hp 1 (by decide)
  split
  · unfold aVen
    split
    · exact hp 2 (by decide)
    · rename_i c
      exact PD_ven ht h k8 (am_i u99) (if_neg c)
  split
  · unfold aDro
    split
    · rename_i c
      exact PD_dro h k8 c
    · exact hp 1 (by decide)
  split
  · unfold aPut
    split
    · rename_i c
      exact PD_put h k8 c
    · exact hl
  split
  · exact hl
  split
  · exact PD_tun h
  split
  · exact PD_not h
  split
  · unfold aRib
    split
    · exact PD_cut h
    · split
      · exact PD_tie h (nat_i (n := 300) (by omega) (by decide))
      · exact hb1
  split
  · unfold aBea
    split
    · exact hb1
    · exact hb2
  split
  · unfold aBak
    split
    · exact PD_up h7
    · exact hp 3 (by decide)
  · unfold aPas
    split
    · exact hp _ (by omega)
    · exact hp _ (by omega)

set_option maxHeartbeats 4000000 in
set_option maxRecDepth 100000 in
theorem ac_fil {p : Program} {e : Env} {s : State} {m : MethodId} {args : Array Value} {below : List Frame} {meth : Method} {cd : Code} {Q : State → Prop} {A : Nat → Prop} (l : Launch) (D : va_G) (cI cZ cS cJ : ClassId) (X : CallFix p m cd cL_act 6 s args wsL_act RL) (hK : va_K D vwCl (tyL cI cZ cS cJ) s) (hA : ∀ q, s.heap.size ≤ q → A q) (O k g a d : Nat → Nat) (w0 : Int32) (c : Nat → Nat → Nat) (f : Nat → Option Nat) (z : Nat) (V : Nat → Nat → Nat → Int32) (T : Nat → Int32) (n : Nat) (K G : Nat → Nat → Int32) (L : Nat → Int32) (v : Int32) (x y : Int32) (hz : z ≤ 6) (hf : ∀ i, i < 6 → f i = some (c i 0)) (hO : OK (V 0)) (hw0 : ¬ w0 = 0) (hO7 : OK (V 7)) (kk : ∀ (S9 : Nat → Nat → Int32) (r9 : Int32), aFil y (V 0) = (S9, r9) → ∀ (H : Heap) (locs : List Loc) (pc : Nat) (ls : Array Slot), va_P D vwCl (List.flatten [clP cI cZ cS O k g a d w0 (cN c z) (fN f z) (savZ z) (vput (savV V z) S9) T n K G L v]) H → va_D A (List.flatten [clP cI cZ cS O k g a d w0 (cN c z) (fN f z) (savZ z) (vput (savV V z) S9) T n K G L v]) → va_S A s.heap H locs → decode cL_act pc = .ok (.ireturn, 1) → W p l e RM_act s m args below meth cd H locs 0 0 Q (F0 m pc ls [.int r9])) (H : Heap) (locs : List Loc) (ls : Array Slot) (hP : va_P D vwCl (List.flatten [clP cI cZ cS O k g a d w0 c f z V T n K G L v]) H) (hD : va_D A (List.flatten [clP cI cZ cS O k g a d w0 c f z V T n K G L v])) (hS : va_S A s.heap H locs) (hl : lv_has ls 6 [(5, .int (nI (1 + upN (sh9 y 3) 99))), (4, .int (nI (upN y 7))), (3, .int (nI (upN y 8))), (2, .int y), (1, .int x), (0, .ref (O 0))]) : W p l e RM_act s m args below meth cd H locs 0 0 Q (F0 m 112 ls []) := by
  obtain ⟨hx, hb, hml, hown, hts⟩ := id X
  have k8 : upN y 8 < 8 := up_lt9 _ (by decide)
  have k7 : upN y 7 < 7 := up_lt9 _ (by decide)
  have u99 : upN (sh9 y 3) 99 < 99 := up_lt9 _ (by decide)
  refine lv_aload_n hx hb dL_act_112 rfl (lv_at hl 5 rfl) ?_
  refine lv_iload_n hx hb dL_act_113 rfl (lv_at hl 2 rfl) ?_
  refine lv_iconst (v := 0) hx hb dL_act_114 (by decide) ?_
  refine kcallVJ (U := Unit) (As := [.int (nI (upN y 8)), .int 0]) (rest := []) (Wr := []) (Wc := [clP cI cZ cS O k g a d w0 c f z V T n K G L v]) (Wo := fun u => [clP cI cZ cS O k g a d w0 c f z V T n K G L v]) X (k_why l D cI cZ cS cJ O k g a d w0 c f z V T n K G L v (upN y 8) 0 (by omega) (fun h9 => absurd h9 (by decide)) (by omega)) (cwV 2 hts gL_act_X6_why rfl rfl rfl (by decide +kernel) ⟨Nat.le_of_ble_eq_true rfl, Nat.le_of_ble_eq_true rfl⟩) hK hP hD hS hA 0 6 rfl rfl rfl hl.1 rfl (Nat.le_of_ble_eq_true rfl) dL_act_115 ⟨Nat.le_of_ble_eq_true rfl, Nat.le_of_ble_eq_true rfl⟩ (fun u H locs hu hP hD hS => ?_)
  have hP : va_P D vwCl (List.flatten [clP cI cZ cS O k g a d w0 c f z V T n K G L v]) _ := hP
  have hD : va_D A (List.flatten [clP cI cZ cS O k g a d w0 c f z V T n K G L v]) := hD
  refine lv_eqi (y := wn0 (V 0) (upN y 8) 1) (rfl) ?_
  refine lv_if_ne (tgt := 146) hx hb dL_act_118 (by decide) (fun c118 => ?_) (fun c118 => ?_)
  · skip
    refine lv_aload_n hx hb dL_act_146 rfl (lv_at hl 5 rfl) ?_
    refine lv_iconst (v := 1) hx hb dL_act_147 (by decide) ?_
    refine kcallVJ (U := Unit) (As := [.int 1]) (rest := []) (Wr := []) (Wc := [clP cI cZ cS O k g a d w0 c f z V T n K G L v]) (Wo := fun u => [clP cI cZ cS O k g a d w0 (cN c z) (fN f z) (savZ z) (vput (savV V z) (hrs (V 0) 1)) T n K G L v]) X (k_pass l D cI cZ cS cJ O k g a d w0 c f z V T n K G L v 1 hz hf hO (by decide) (by decide) (by omega)) (cwV 1 hts gL_act_X6_pass rfl rfl rfl (by decide +kernel) ⟨Nat.le_of_ble_eq_true rfl, Nat.le_of_ble_eq_true rfl⟩) hK hP hD hS hA 0 6 rfl rfl rfl hl.1 rfl (Nat.le_of_ble_eq_true rfl) dL_act_148 ⟨Nat.le_of_ble_eq_true rfl, Nat.le_of_ble_eq_true rfl⟩ (fun u H locs hu hP hD hS => ?_)
    have hP : va_P D vwCl (List.flatten [clP cI cZ cS O k g a d w0 (cN c z) (fN f z) (savZ z) (vput (savV V z) (hrs (V 0) 1)) T n K G L v]) _ := hP
    have hD : va_D A (List.flatten [clP cI cZ cS O k g a d w0 (cN c z) (fN f z) (savZ z) (vput (savV V z) (hrs (V 0) 1)) T n K G L v]) := hD
    refine lv_eqi (y := hrs (V 0) 1 12 4 - V 0 12 4) (rfl) ?_
    exact kk (hrs (V 0) 1) (hrs (V 0) 1 12 4 - V 0 12 4) (by unfold aFil; rw [if_neg c118]; rfl) _ _ _ _ hP hD hS dL_act_151
  · skip
    refine lv_aload_n hx hb dL_act_121 rfl (lv_at hl 5 rfl) ?_
    refine lv_iload_n hx hb dL_act_122 rfl (lv_at hl 2 rfl) ?_
    refine lv_iconst (v := 0) hx hb dL_act_123 (by decide) ?_
    refine kcallVJ (U := Unit) (As := [.int (nI (upN y 8)), .int 0]) (rest := []) (Wr := []) (Wc := [clP cI cZ cS O k g a d w0 c f z V T n K G L v]) (Wo := fun u => [clP cI cZ cS O k g a d w0 c f z V T n K G L v]) X (k_balloon l D cI cZ cS cJ O k g a d w0 c f z V T n K G L v (upN y 8) 0 (by omega) (by omega)) (cwV 2 hts gL_act_X6_balloon rfl rfl rfl (by decide +kernel) ⟨Nat.le_of_ble_eq_true rfl, Nat.le_of_ble_eq_true rfl⟩) hK hP hD hS hA 0 6 rfl rfl rfl hl.1 rfl (Nat.le_of_ble_eq_true rfl) dL_act_124 ⟨Nat.le_of_ble_eq_true rfl, Nat.le_of_ble_eq_true rfl⟩ (fun u H locs hu hP hD hS => ?_)
    have hP : va_P D vwCl (List.flatten [clP cI cZ cS O k g a d w0 c f z V T n K G L v]) _ := hP
    have hD : va_D A (List.flatten [clP cI cZ cS O k g a d w0 c f z V T n K G L v]) := hD
    refine lv_eqi (y := V 0 0 (upN y 8)) (rfl) ?_
    refine lv_iload hx hb dL_act_127 (lv_at hl 0 rfl) ?_
    refine lv_iadd hx hb dL_act_129 ?_
    refine lv_sipush (v := 200) hx hb dL_act_130 (by decide) ?_
    refine lv_icmp_gt (tgt := 146) hx hb dL_act_133 (by decide) (fun c133 => ?_) (fun c133 => ?_)
    · skip
      refine lv_aload_n hx hb dL_act_146 rfl (lv_at hl 5 rfl) ?_
      refine lv_iconst (v := 1) hx hb dL_act_147 (by decide) ?_
      refine kcallVJ (U := Unit) (As := [.int 1]) (rest := []) (Wr := []) (Wc := [clP cI cZ cS O k g a d w0 c f z V T n K G L v]) (Wo := fun u => [clP cI cZ cS O k g a d w0 (cN c z) (fN f z) (savZ z) (vput (savV V z) (hrs (V 0) 1)) T n K G L v]) X (k_pass l D cI cZ cS cJ O k g a d w0 c f z V T n K G L v 1 hz hf hO (by decide) (by decide) (by omega)) (cwV 1 hts gL_act_X6_pass rfl rfl rfl (by decide +kernel) ⟨Nat.le_of_ble_eq_true rfl, Nat.le_of_ble_eq_true rfl⟩) hK hP hD hS hA 0 6 rfl rfl rfl hl.1 rfl (Nat.le_of_ble_eq_true rfl) dL_act_148 ⟨Nat.le_of_ble_eq_true rfl, Nat.le_of_ble_eq_true rfl⟩ (fun u H locs hu hP hD hS => ?_)
      have hP : va_P D vwCl (List.flatten [clP cI cZ cS O k g a d w0 (cN c z) (fN f z) (savZ z) (vput (savV V z) (hrs (V 0) 1)) T n K G L v]) _ := hP
      have hD : va_D A (List.flatten [clP cI cZ cS O k g a d w0 (cN c z) (fN f z) (savZ z) (vput (savV V z) (hrs (V 0) 1)) T n K G L v]) := hD
      refine lv_eqi (y := hrs (V 0) 1 12 4 - V 0 12 4) (rfl) ?_
      exact kk (hrs (V 0) 1) (hrs (V 0) 1 12 4 - V 0 12 4) (by unfold aFil; rw [if_pos c118, if_pos c133]; rfl) _ _ _ _ hP hD hS dL_act_151
    · skip
      refine lv_aload_n hx hb dL_act_136 rfl (lv_at hl 5 rfl) ?_
      refine lv_iload_n hx hb dL_act_137 rfl (lv_at hl 2 rfl) ?_
      refine lv_iload hx hb dL_act_138 (lv_at hl 0 rfl) ?_
      refine kcallVJ (U := Unit) (As := [.int (nI (upN y 8)), .int (nI (1 + upN (sh9 y 3) 99))]) (rest := []) (Wr := []) (Wc := [clP cI cZ cS O k g a d w0 c f z V T n K G L v]) (Wo := fun u => [clP cI cZ cS O k g a d w0 (cN c z) (fN f z) (savZ z) (vput (savV V z) (mended (filS (V 0) (upN y 8) (nI (1 + upN (sh9 y 3) 99))))) T n K G L v]) X (k_fill l D cI cZ cS cJ O k g a d w0 c f z V T n K G L v (upN y 8) (nI (1 + upN (sh9 y 3) 99)) hz hf hO (by omega) (nI_nl (a := 1 + upN (sh9 y 3) 99) (b := 1) (by omega) (by omega)) (nI_leq (a := 1 + upN (sh9 y 3) 99) (b := 99) (by omega) (by decide)) (wn0_w c118 c133)) (cwV 2 hts gL_act_X6_fill rfl rfl rfl (by decide +kernel) ⟨Nat.le_of_ble_eq_true rfl, Nat.le_of_ble_eq_true rfl⟩) hK hP hD hS hA 0 6 rfl rfl rfl hl.1 rfl (Nat.le_of_ble_eq_true rfl) dL_act_140 ⟨Nat.le_of_ble_eq_true rfl, Nat.le_of_ble_eq_true rfl⟩ (fun u H locs hu hP hD hS => ?_)
      have hP : va_P D vwCl (List.flatten [clP cI cZ cS O k g a d w0 (cN c z) (fN f z) (savZ z) (vput (savV V z) (mended (filS (V 0) (upN y 8) (nI (1 + upN (sh9 y 3) 99))))) T n K G L v]) _ := hP
      have hD : va_D A (List.flatten [clP cI cZ cS O k g a d w0 (cN c z) (fN f z) (savZ z) (vput (savV V z) (mended (filS (V 0) (upN y 8) (nI (1 + upN (sh9 y 3) 99))))) T n K G L v]) := hD
      refine lv_eqi (y := V 0 0 (upN y 8) + (nI (1 + upN (sh9 y 3) 99))) (rfl) ?_
      refine lv_goto (tgt := 151) hx hb dL_act_143 (by decide) ?_
      exact kk (mended (filS (V 0) (upN y 8) (nI (1 + upN (sh9 y 3) 99)))) (V 0 0 (upN y 8) + (nI (1 + upN (sh9 y 3) 99))) (by unfold aFil; rw [if_pos c118, if_neg c133]) _ _ _ _ hP hD hS dL_act_151

set_option maxHeartbeats 4000000 in
set_option maxRecDepth 100000 in
theorem ac_ven {p : Program} {e : Env} {s : State} {m : MethodId} {args : Array Value} {below : List Frame} {meth : Method} {cd : Code} {Q : State → Prop} {A : Nat → Prop} (l : Launch) (D : va_G) (cI cZ cS cJ : ClassId) (X : CallFix p m cd cL_act 6 s args wsL_act RL) (hK : va_K D vwCl (tyL cI cZ cS cJ) s) (hA : ∀ q, s.heap.size ≤ q → A q) (O k g a d : Nat → Nat) (w0 : Int32) (c : Nat → Nat → Nat) (f : Nat → Option Nat) (z : Nat) (V : Nat → Nat → Nat → Int32) (T : Nat → Int32) (n : Nat) (K G : Nat → Nat → Int32) (L : Nat → Int32) (v : Int32) (x y : Int32) (hz : z ≤ 6) (hf : ∀ i, i < 6 → f i = some (c i 0)) (hO : OK (V 0)) (hw0 : ¬ w0 = 0) (hO7 : OK (V 7)) (kk : ∀ (S9 : Nat → Nat → Int32) (r9 : Int32), aVen y (V 0) = (S9, r9) → ∀ (H : Heap) (locs : List Loc) (pc : Nat) (ls : Array Slot), va_P D vwCl (List.flatten [clP cI cZ cS O k g a d w0 (cN c z) (fN f z) (savZ z) (vput (savV V z) S9) T n K G L v]) H → va_D A (List.flatten [clP cI cZ cS O k g a d w0 (cN c z) (fN f z) (savZ z) (vput (savV V z) S9) T n K G L v]) → va_S A s.heap H locs → decode cL_act pc = .ok (.ireturn, 1) → W p l e RM_act s m args below meth cd H locs 0 0 Q (F0 m pc ls [.int r9])) (H : Heap) (locs : List Loc) (ls : Array Slot) (hP : va_P D vwCl (List.flatten [clP cI cZ cS O k g a d w0 c f z V T n K G L v]) H) (hD : va_D A (List.flatten [clP cI cZ cS O k g a d w0 c f z V T n K G L v])) (hS : va_S A s.heap H locs) (hl : lv_has ls 6 [(5, .int (nI (1 + upN (sh9 y 3) 99))), (4, .int (nI (upN y 7))), (3, .int (nI (upN y 8))), (2, .int y), (1, .int x), (0, .ref (O 0))]) : W p l e RM_act s m args below meth cd H locs 0 0 Q (F0 m 152 ls []) := by
  obtain ⟨hx, hb, hml, hown, hts⟩ := id X
  have k8 : upN y 8 < 8 := up_lt9 _ (by decide)
  have k7 : upN y 7 < 7 := up_lt9 _ (by decide)
  have u99 : upN (sh9 y 3) 99 < 99 := up_lt9 _ (by decide)
  refine lv_aload_n hx hb dL_act_152 rfl (lv_at hl 5 rfl) ?_
  refine lv_iload_n hx hb dL_act_153 rfl (lv_at hl 2 rfl) ?_
  refine lv_iconst (v := 0) hx hb dL_act_154 (by decide) ?_
  refine kcallVJ (U := Unit) (As := [.int (nI (upN y 8)), .int 0]) (rest := []) (Wr := []) (Wc := [clP cI cZ cS O k g a d w0 c f z V T n K G L v]) (Wo := fun u => [clP cI cZ cS O k g a d w0 c f z V T n K G L v]) X (k_balloon l D cI cZ cS cJ O k g a d w0 c f z V T n K G L v (upN y 8) 0 (by omega) (by omega)) (cwV 2 hts gL_act_X6_balloon rfl rfl rfl (by decide +kernel) ⟨Nat.le_of_ble_eq_true rfl, Nat.le_of_ble_eq_true rfl⟩) hK hP hD hS hA 0 6 rfl rfl rfl hl.1 rfl (Nat.le_of_ble_eq_true rfl) dL_act_155 ⟨Nat.le_of_ble_eq_true rfl, Nat.le_of_ble_eq_true rfl⟩ (fun u H locs hu hP hD hS => ?_)
  have hP : va_P D vwCl (List.flatten [clP cI cZ cS O k g a d w0 c f z V T n K G L v]) _ := hP
  have hD : va_D A (List.flatten [clP cI cZ cS O k g a d w0 c f z V T n K G L v]) := hD
  refine lv_eqi (y := V 0 0 (upN y 8)) (rfl) ?_
  refine lv_iload hx hb dL_act_158 (lv_at hl 0 rfl) ?_
  refine lv_icmp_lt (tgt := 173) hx hb dL_act_160 (by decide) (fun c160 => ?_) (fun c160 => ?_)
  · skip
    refine lv_aload_n hx hb dL_act_173 rfl (lv_at hl 5 rfl) ?_
    refine lv_iconst (v := 2) hx hb dL_act_174 (by decide) ?_
    refine kcallVJ (U := Unit) (As := [.int 2]) (rest := []) (Wr := []) (Wc := [clP cI cZ cS O k g a d w0 c f z V T n K G L v]) (Wo := fun u => [clP cI cZ cS O k g a d w0 (cN c z) (fN f z) (savZ z) (vput (savV V z) (hrs (V 0) 2)) T n K G L v]) X (k_pass l D cI cZ cS cJ O k g a d w0 c f z V T n K G L v 2 hz hf hO (by decide) (by decide) (by omega)) (cwV 1 hts gL_act_X6_pass rfl rfl rfl (by decide +kernel) ⟨Nat.le_of_ble_eq_true rfl, Nat.le_of_ble_eq_true rfl⟩) hK hP hD hS hA 0 6 rfl rfl rfl hl.1 rfl (Nat.le_of_ble_eq_true rfl) dL_act_175 ⟨Nat.le_of_ble_eq_true rfl, Nat.le_of_ble_eq_true rfl⟩ (fun u H locs hu hP hD hS => ?_)
    have hP : va_P D vwCl (List.flatten [clP cI cZ cS O k g a d w0 (cN c z) (fN f z) (savZ z) (vput (savV V z) (hrs (V 0) 2)) T n K G L v]) _ := hP
    have hD : va_D A (List.flatten [clP cI cZ cS O k g a d w0 (cN c z) (fN f z) (savZ z) (vput (savV V z) (hrs (V 0) 2)) T n K G L v]) := hD
    refine lv_eqi (y := hrs (V 0) 2 12 4 - V 0 12 4) (rfl) ?_
    exact kk (hrs (V 0) 2) (hrs (V 0) 2 12 4 - V 0 12 4) (by unfold aVen; rw [if_pos c160]; rfl) _ _ _ _ hP hD hS dL_act_178
  · skip
    refine lv_aload_n hx hb dL_act_163 rfl (lv_at hl 5 rfl) ?_
    refine lv_iload_n hx hb dL_act_164 rfl (lv_at hl 2 rfl) ?_
    refine lv_iload hx hb dL_act_165 (lv_at hl 0 rfl) ?_
    refine kcallVJ (U := Unit) (As := [.int (nI (upN y 8)), .int (nI (1 + upN (sh9 y 3) 99))]) (rest := []) (Wr := []) (Wc := [clP cI cZ cS O k g a d w0 c f z V T n K G L v]) (Wo := fun u => [clP cI cZ cS O k g a d w0 (cN c z) (fN f z) (savZ z) (vput (savV V z) (mended (venS (V 0) (upN y 8) (nI (1 + upN (sh9 y 3) 99))))) T n K G L v]) X (k_vent l D cI cZ cS cJ O k g a d w0 c f z V T n K G L v (upN y 8) (nI (1 + upN (sh9 y 3) 99)) hz hf hO (by omega) (nI_nl (a := 1 + upN (sh9 y 3) 99) (b := 1) (by omega) (by omega)) (nI_leq (a := 1 + upN (sh9 y 3) 99) (b := 99) (by omega) (by decide)) (if_neg c160)) (cwV 2 hts gL_act_X6_vent rfl rfl rfl (by decide +kernel) ⟨Nat.le_of_ble_eq_true rfl, Nat.le_of_ble_eq_true rfl⟩) hK hP hD hS hA 0 6 rfl rfl rfl hl.1 rfl (Nat.le_of_ble_eq_true rfl) dL_act_167 ⟨Nat.le_of_ble_eq_true rfl, Nat.le_of_ble_eq_true rfl⟩ (fun u H locs hu hP hD hS => ?_)
    have hP : va_P D vwCl (List.flatten [clP cI cZ cS O k g a d w0 (cN c z) (fN f z) (savZ z) (vput (savV V z) (mended (venS (V 0) (upN y 8) (nI (1 + upN (sh9 y 3) 99))))) T n K G L v]) _ := hP
    have hD : va_D A (List.flatten [clP cI cZ cS O k g a d w0 (cN c z) (fN f z) (savZ z) (vput (savV V z) (mended (venS (V 0) (upN y 8) (nI (1 + upN (sh9 y 3) 99))))) T n K G L v]) := hD
    refine lv_eqi (y := ht (venS (V 0) (upN y 8) (nI (1 + upN (sh9 y 3) 99))) (upN y 8)) (rfl) ?_
    refine lv_goto (tgt := 178) hx hb dL_act_170 (by decide) ?_
    exact kk (mended (venS (V 0) (upN y 8) (nI (1 + upN (sh9 y 3) 99)))) (ht (venS (V 0) (upN y 8) (nI (1 + upN (sh9 y 3) 99))) (upN y 8)) (by unfold aVen; rw [if_neg c160]) _ _ _ _ hP hD hS dL_act_178

set_option maxHeartbeats 4000000 in
set_option maxRecDepth 100000 in
theorem ac_dro {p : Program} {e : Env} {s : State} {m : MethodId} {args : Array Value} {below : List Frame} {meth : Method} {cd : Code} {Q : State → Prop} {A : Nat → Prop} (l : Launch) (D : va_G) (cI cZ cS cJ : ClassId) (X : CallFix p m cd cL_act 6 s args wsL_act RL) (hK : va_K D vwCl (tyL cI cZ cS cJ) s) (hA : ∀ q, s.heap.size ≤ q → A q) (O k g a d : Nat → Nat) (w0 : Int32) (c : Nat → Nat → Nat) (f : Nat → Option Nat) (z : Nat) (V : Nat → Nat → Nat → Int32) (T : Nat → Int32) (n : Nat) (K G : Nat → Nat → Int32) (L : Nat → Int32) (v : Int32) (x y : Int32) (hz : z ≤ 6) (hf : ∀ i, i < 6 → f i = some (c i 0)) (hO : OK (V 0)) (hw0 : ¬ w0 = 0) (hO7 : OK (V 7)) (kk : ∀ (S9 : Nat → Nat → Int32) (r9 : Int32), aDro y (V 0) = (S9, r9) → ∀ (H : Heap) (locs : List Loc) (pc : Nat) (ls : Array Slot), va_P D vwCl (List.flatten [clP cI cZ cS O k g a d w0 (cN c z) (fN f z) (savZ z) (vput (savV V z) S9) T n K G L v]) H → va_D A (List.flatten [clP cI cZ cS O k g a d w0 (cN c z) (fN f z) (savZ z) (vput (savV V z) S9) T n K G L v]) → va_S A s.heap H locs → decode cL_act pc = .ok (.ireturn, 1) → W p l e RM_act s m args below meth cd H locs 0 0 Q (F0 m pc ls [.int r9])) (H : Heap) (locs : List Loc) (ls : Array Slot) (hP : va_P D vwCl (List.flatten [clP cI cZ cS O k g a d w0 c f z V T n K G L v]) H) (hD : va_D A (List.flatten [clP cI cZ cS O k g a d w0 c f z V T n K G L v])) (hS : va_S A s.heap H locs) (hl : lv_has ls 6 [(5, .int (nI (1 + upN (sh9 y 3) 99))), (4, .int (nI (upN y 7))), (3, .int (nI (upN y 8))), (2, .int y), (1, .int x), (0, .ref (O 0))]) : W p l e RM_act s m args below meth cd H locs 0 0 Q (F0 m 179 ls []) := by
  obtain ⟨hx, hb, hml, hown, hts⟩ := id X
  have k8 : upN y 8 < 8 := up_lt9 _ (by decide)
  have k7 : upN y 7 < 7 := up_lt9 _ (by decide)
  have u99 : upN (sh9 y 3) 99 < 99 := up_lt9 _ (by decide)
  refine lv_aload_n hx hb dL_act_179 rfl (lv_at hl 5 rfl) ?_
  refine lv_iload_n hx hb dL_act_180 rfl (lv_at hl 2 rfl) ?_
  refine lv_iconst (v := 2) hx hb dL_act_181 (by decide) ?_
  refine kcallVJ (U := Unit) (As := [.int (nI (upN y 8)), .int 2]) (rest := []) (Wr := []) (Wc := [clP cI cZ cS O k g a d w0 c f z V T n K G L v]) (Wo := fun u => [clP cI cZ cS O k g a d w0 c f z V T n K G L v]) X (k_why l D cI cZ cS cJ O k g a d w0 c f z V T n K G L v (upN y 8) 2 (by omega) (fun h9 => absurd h9 (by decide)) (by omega)) (cwV 2 hts gL_act_X6_why rfl rfl rfl (by decide +kernel) ⟨Nat.le_of_ble_eq_true rfl, Nat.le_of_ble_eq_true rfl⟩) hK hP hD hS hA 0 6 rfl rfl rfl hl.1 rfl (Nat.le_of_ble_eq_true rfl) dL_act_182 ⟨Nat.le_of_ble_eq_true rfl, Nat.le_of_ble_eq_true rfl⟩ (fun u H locs hu hP hD hS => ?_)
  have hP : va_P D vwCl (List.flatten [clP cI cZ cS O k g a d w0 c f z V T n K G L v]) _ := hP
  have hD : va_D A (List.flatten [clP cI cZ cS O k g a d w0 c f z V T n K G L v]) := hD
  refine lv_eqi (y := wn2 (V 0) (upN y 8)) (rfl) ?_
  refine lv_if_ne (tgt := 196) hx hb dL_act_185 (by decide) (fun c185 => ?_) (fun c185 => ?_)
  · skip
    refine lv_aload_n hx hb dL_act_196 rfl (lv_at hl 5 rfl) ?_
    refine lv_iconst (v := 1) hx hb dL_act_197 (by decide) ?_
    refine kcallVJ (U := Unit) (As := [.int 1]) (rest := []) (Wr := []) (Wc := [clP cI cZ cS O k g a d w0 c f z V T n K G L v]) (Wo := fun u => [clP cI cZ cS O k g a d w0 (cN c z) (fN f z) (savZ z) (vput (savV V z) (hrs (V 0) 1)) T n K G L v]) X (k_pass l D cI cZ cS cJ O k g a d w0 c f z V T n K G L v 1 hz hf hO (by decide) (by decide) (by omega)) (cwV 1 hts gL_act_X6_pass rfl rfl rfl (by decide +kernel) ⟨Nat.le_of_ble_eq_true rfl, Nat.le_of_ble_eq_true rfl⟩) hK hP hD hS hA 0 6 rfl rfl rfl hl.1 rfl (Nat.le_of_ble_eq_true rfl) dL_act_198 ⟨Nat.le_of_ble_eq_true rfl, Nat.le_of_ble_eq_true rfl⟩ (fun u H locs hu hP hD hS => ?_)
    have hP : va_P D vwCl (List.flatten [clP cI cZ cS O k g a d w0 (cN c z) (fN f z) (savZ z) (vput (savV V z) (hrs (V 0) 1)) T n K G L v]) _ := hP
    have hD : va_D A (List.flatten [clP cI cZ cS O k g a d w0 (cN c z) (fN f z) (savZ z) (vput (savV V z) (hrs (V 0) 1)) T n K G L v]) := hD
    refine lv_eqi (y := hrs (V 0) 1 12 4 - V 0 12 4) (rfl) ?_
    exact kk (hrs (V 0) 1) (hrs (V 0) 1 12 4 - V 0 12 4) (by unfold aDro; rw [if_neg c185]; rfl) _ _ _ _ hP hD hS dL_act_201
  · skip
    refine lv_aload_n hx hb dL_act_188 rfl (lv_at hl 5 rfl) ?_
    refine lv_iload_n hx hb dL_act_189 rfl (lv_at hl 2 rfl) ?_
    refine kcallVJ (U := Unit) (As := [.int (nI (upN y 8))]) (rest := []) (Wr := []) (Wc := [clP cI cZ cS O k g a d w0 c f z V T n K G L v]) (Wo := fun u => [clP cI cZ cS O k g a d w0 (cN c z) (fN f z) (savZ z) (vput (savV V z) (mended (droS (V 0) (upN y 8)))) T n K G L v]) X (k_drop l D cI cZ cS cJ O k g a d w0 c f z V T n K G L v (upN y 8) hz hf hO (by omega) c185) (cwV 1 hts gL_act_X6_drop rfl rfl rfl (by decide +kernel) ⟨Nat.le_of_ble_eq_true rfl, Nat.le_of_ble_eq_true rfl⟩) hK hP hD hS hA 0 6 rfl rfl rfl hl.1 rfl (Nat.le_of_ble_eq_true rfl) dL_act_190 ⟨Nat.le_of_ble_eq_true rfl, Nat.le_of_ble_eq_true rfl⟩ (fun u H locs hu hP hD hS => ?_)
    have hP : va_P D vwCl (List.flatten [clP cI cZ cS O k g a d w0 (cN c z) (fN f z) (savZ z) (vput (savV V z) (mended (droS (V 0) (upN y 8)))) T n K G L v]) _ := hP
    have hD : va_D A (List.flatten [clP cI cZ cS O k g a d w0 (cN c z) (fN f z) (savZ z) (vput (savV V z) (mended (droS (V 0) (upN y 8)))) T n K G L v]) := hD
    refine lv_eqi (y := ht (droS (V 0) (upN y 8)) (upN y 8)) (rfl) ?_
    refine lv_goto (tgt := 201) hx hb dL_act_193 (by decide) ?_
    exact kk (mended (droS (V 0) (upN y 8))) (ht (droS (V 0) (upN y 8)) (upN y 8)) (by unfold aDro; rw [if_pos c185]) _ _ _ _ hP hD hS dL_act_201

set_option maxHeartbeats 4000000 in
set_option maxRecDepth 100000 in
theorem ac_put {p : Program} {e : Env} {s : State} {m : MethodId} {args : Array Value} {below : List Frame} {meth : Method} {cd : Code} {Q : State → Prop} {A : Nat → Prop} (l : Launch) (D : va_G) (cI cZ cS cJ : ClassId) (X : CallFix p m cd cL_act 6 s args wsL_act RL) (hK : va_K D vwCl (tyL cI cZ cS cJ) s) (hA : ∀ q, s.heap.size ≤ q → A q) (O k g a d : Nat → Nat) (w0 : Int32) (c : Nat → Nat → Nat) (f : Nat → Option Nat) (z : Nat) (V : Nat → Nat → Nat → Int32) (T : Nat → Int32) (n : Nat) (K G : Nat → Nat → Int32) (L : Nat → Int32) (v : Int32) (x y : Int32) (hz : z ≤ 6) (hf : ∀ i, i < 6 → f i = some (c i 0)) (hO : OK (V 0)) (hw0 : ¬ w0 = 0) (hO7 : OK (V 7)) (kk : ∀ (S9 : Nat → Nat → Int32) (r9 : Int32), aPut y (V 0) = (S9, r9) → ∀ (H : Heap) (locs : List Loc) (pc : Nat) (ls : Array Slot), va_P D vwCl (List.flatten [clP cI cZ cS O k g a d w0 (cN c z) (fN f z) (savZ z) (vput (savV V z) S9) T n K G L v]) H → va_D A (List.flatten [clP cI cZ cS O k g a d w0 (cN c z) (fN f z) (savZ z) (vput (savV V z) S9) T n K G L v]) → va_S A s.heap H locs → decode cL_act pc = .ok (.ireturn, 1) → W p l e RM_act s m args below meth cd H locs 0 0 Q (F0 m pc ls [.int r9])) (H : Heap) (locs : List Loc) (ls : Array Slot) (hP : va_P D vwCl (List.flatten [clP cI cZ cS O k g a d w0 c f z V T n K G L v]) H) (hD : va_D A (List.flatten [clP cI cZ cS O k g a d w0 c f z V T n K G L v])) (hS : va_S A s.heap H locs) (hl : lv_has ls 6 [(5, .int (nI (1 + upN (sh9 y 3) 99))), (4, .int (nI (upN y 7))), (3, .int (nI (upN y 8))), (2, .int y), (1, .int x), (0, .ref (O 0))]) : W p l e RM_act s m args below meth cd H locs 0 0 Q (F0 m 202 ls []) := by
  obtain ⟨hx, hb, hml, hown, hts⟩ := id X
  have k8 : upN y 8 < 8 := up_lt9 _ (by decide)
  have k7 : upN y 7 < 7 := up_lt9 _ (by decide)
  have u99 : upN (sh9 y 3) 99 < 99 := up_lt9 _ (by decide)
  refine lv_aload_n hx hb dL_act_202 rfl (lv_at hl 5 rfl) ?_
  refine lv_iload_n hx hb dL_act_203 rfl (lv_at hl 2 rfl) ?_
  refine lv_iconst (v := 3) hx hb dL_act_204 (by decide) ?_
  refine kcallVJ (U := Unit) (As := [.int (nI (upN y 8)), .int 3]) (rest := []) (Wr := []) (Wc := [clP cI cZ cS O k g a d w0 c f z V T n K G L v]) (Wo := fun u => [clP cI cZ cS O k g a d w0 c f z V T n K G L v]) X (k_why l D cI cZ cS cJ O k g a d w0 c f z V T n K G L v (upN y 8) 3 (by omega) (fun h9 => absurd h9 (by decide)) (by omega)) (cwV 2 hts gL_act_X6_why rfl rfl rfl (by decide +kernel) ⟨Nat.le_of_ble_eq_true rfl, Nat.le_of_ble_eq_true rfl⟩) hK hP hD hS hA 0 6 rfl rfl rfl hl.1 rfl (Nat.le_of_ble_eq_true rfl) dL_act_205 ⟨Nat.le_of_ble_eq_true rfl, Nat.le_of_ble_eq_true rfl⟩ (fun u H locs hu hP hD hS => ?_)
  have hP : va_P D vwCl (List.flatten [clP cI cZ cS O k g a d w0 c f z V T n K G L v]) _ := hP
  have hD : va_D A (List.flatten [clP cI cZ cS O k g a d w0 c f z V T n K G L v]) := hD
  refine lv_eqi (y := wn3 (V 0) (upN y 8)) (rfl) ?_
  refine lv_if_ne (tgt := 219) hx hb dL_act_208 (by decide) (fun c208 => ?_) (fun c208 => ?_)
  · skip
    refine lv_aload_n hx hb dL_act_219 rfl (lv_at hl 5 rfl) ?_
    refine lv_iload_n hx hb dL_act_220 rfl (lv_at hl 2 rfl) ?_
    refine lv_iload_n hx hb dL_act_221 rfl (lv_at hl 3 rfl) ?_
    refine lv_iconst (v := 3) hx hb dL_act_222 (by decide) ?_
    refine lv_ishr hx hb dL_act_223 ?_
    refine lv_eqi (y := sh9 y 3) rfl ?_
    refine lv_bipush (v := 10) hx hb dL_act_224 (by decide) ?_
    refine kcallSJ (U := Unit) (As := [.int (sh9 y 3), .int 10]) (rest := [.int (nI (upN y 8)), .ref (O 0)]) (Wr := [clP cI cZ cS O k g a d w0 c f z V T n K G L v]) (Wc := []) (Wo := fun _ => []) X (c_L_up l D (tyL cI cZ cS cJ) (sh9 y 3) 10 (by decide) (by decide)) (va_cwS 2 hts gL_act_L_up rfl rfl rfl (by decide +kernel) ⟨Nat.le_of_ble_eq_true rfl, Nat.le_of_ble_eq_true rfl⟩) hK (hP) (hD) hS hA rfl hl.1 rfl (Nat.le_of_ble_eq_true rfl) dL_act_226 ⟨Nat.le_of_ble_eq_true rfl, Nat.le_of_ble_eq_true rfl⟩ (fun u H locs hu hP hD hS => ?_)
    have hP : va_P D vwCl (List.flatten [clP cI cZ cS O k g a d w0 c f z V T n K G L v]) _ := hP
    have hD : va_D A (List.flatten [clP cI cZ cS O k g a d w0 c f z V T n K G L v]) := hD
    have hu226 : upN (sh9 y 3) 10 < 10 := up_lt9 _ (by decide)
    refine kcallVJ (U := Unit) (As := [.int (nI (upN y 8)), .int (nI (upN (sh9 y 3) 10))]) (rest := []) (Wr := []) (Wc := [clP cI cZ cS O k g a d w0 c f z V T n K G L v]) (Wo := fun u => [clP cI cZ cS O k g a d w0 (cN c z) (fN f z) (savZ z) (vput (savV V z) (leaS (V 0) (upN y 8) (nI (upN (sh9 y 3) 10)))) T n K G L v]) X (k_leak l D cI cZ cS cJ O k g a d w0 c f z V T n K G L v (upN y 8) (nI (upN (sh9 y 3) 10)) hz hf hO (by omega) (nI_pos (by omega)) (nI_leq (a := upN (sh9 y 3) 10) (b := 9) (by omega) (by decide))) (cwV 2 hts gL_act_X6_leak rfl rfl rfl (by decide +kernel) ⟨Nat.le_of_ble_eq_true rfl, Nat.le_of_ble_eq_true rfl⟩) hK hP hD hS hA 0 6 rfl rfl rfl hl.1 rfl (Nat.le_of_ble_eq_true rfl) dL_act_229 ⟨Nat.le_of_ble_eq_true rfl, Nat.le_of_ble_eq_true rfl⟩ (fun u H locs hu hP hD hS => ?_)
    have hP : va_P D vwCl (List.flatten [clP cI cZ cS O k g a d w0 (cN c z) (fN f z) (savZ z) (vput (savV V z) (leaS (V 0) (upN y 8) (nI (upN (sh9 y 3) 10)))) T n K G L v]) _ := hP
    have hD : va_D A (List.flatten [clP cI cZ cS O k g a d w0 (cN c z) (fN f z) (savZ z) (vput (savV V z) (leaS (V 0) (upN y 8) (nI (upN (sh9 y 3) 10)))) T n K G L v]) := hD
    refine lv_eqi (y := V 0 2 (upN y 8)) (rfl) ?_
    exact kk (leaS (V 0) (upN y 8) (nI (upN (sh9 y 3) 10))) (V 0 2 (upN y 8)) (by unfold aPut; rw [if_neg c208]; rfl) _ _ _ _ hP hD hS dL_act_232
  · skip
    refine lv_aload_n hx hb dL_act_211 rfl (lv_at hl 5 rfl) ?_
    refine lv_iload_n hx hb dL_act_212 rfl (lv_at hl 2 rfl) ?_
    refine kcallVJ (U := Unit) (As := [.int (nI (upN y 8))]) (rest := []) (Wr := []) (Wc := [clP cI cZ cS O k g a d w0 c f z V T n K G L v]) (Wo := fun u => [clP cI cZ cS O k g a d w0 (cN c z) (fN f z) (savZ z) (vput (savV V z) (mended (putS (V 0) (upN y 8)))) T n K G L v]) X (k_put l D cI cZ cS cJ O k g a d w0 c f z V T n K G L v (upN y 8) hz hf hO (by omega) c208) (cwV 1 hts gL_act_X6_put rfl rfl rfl (by decide +kernel) ⟨Nat.le_of_ble_eq_true rfl, Nat.le_of_ble_eq_true rfl⟩) hK hP hD hS hA 0 6 rfl rfl rfl hl.1 rfl (Nat.le_of_ble_eq_true rfl) dL_act_213 ⟨Nat.le_of_ble_eq_true rfl, Nat.le_of_ble_eq_true rfl⟩ (fun u H locs hu hP hD hS => ?_)
    have hP : va_P D vwCl (List.flatten [clP cI cZ cS O k g a d w0 (cN c z) (fN f z) (savZ z) (vput (savV V z) (mended (putS (V 0) (upN y 8)))) T n K G L v]) _ := hP
    have hD : va_D A (List.flatten [clP cI cZ cS O k g a d w0 (cN c z) (fN f z) (savZ z) (vput (savV V z) (mended (putS (V 0) (upN y 8)))) T n K G L v]) := hD
    refine lv_eqi (y := V 0 1 (upN y 8) + 1) (rfl) ?_
    refine lv_goto (tgt := 232) hx hb dL_act_216 (by decide) ?_
    exact kk (mended (putS (V 0) (upN y 8))) (V 0 1 (upN y 8) + 1) (by unfold aPut; rw [if_pos c208]) _ _ _ _ hP hD hS dL_act_232

set_option maxHeartbeats 4000000 in
set_option maxRecDepth 100000 in
theorem ac_lea {p : Program} {e : Env} {s : State} {m : MethodId} {args : Array Value} {below : List Frame} {meth : Method} {cd : Code} {Q : State → Prop} {A : Nat → Prop} (l : Launch) (D : va_G) (cI cZ cS cJ : ClassId) (X : CallFix p m cd cL_act 6 s args wsL_act RL) (hK : va_K D vwCl (tyL cI cZ cS cJ) s) (hA : ∀ q, s.heap.size ≤ q → A q) (O k g a d : Nat → Nat) (w0 : Int32) (c : Nat → Nat → Nat) (f : Nat → Option Nat) (z : Nat) (V : Nat → Nat → Nat → Int32) (T : Nat → Int32) (n : Nat) (K G : Nat → Nat → Int32) (L : Nat → Int32) (v : Int32) (x y : Int32) (hz : z ≤ 6) (hf : ∀ i, i < 6 → f i = some (c i 0)) (hO : OK (V 0)) (hw0 : ¬ w0 = 0) (hO7 : OK (V 7)) (kk : ∀ (S9 : Nat → Nat → Int32) (r9 : Int32), aLea y (V 0) = (S9, r9) → ∀ (H : Heap) (locs : List Loc) (pc : Nat) (ls : Array Slot), va_P D vwCl (List.flatten [clP cI cZ cS O k g a d w0 (cN c z) (fN f z) (savZ z) (vput (savV V z) S9) T n K G L v]) H → va_D A (List.flatten [clP cI cZ cS O k g a d w0 (cN c z) (fN f z) (savZ z) (vput (savV V z) S9) T n K G L v]) → va_S A s.heap H locs → decode cL_act pc = .ok (.ireturn, 1) → W p l e RM_act s m args below meth cd H locs 0 0 Q (F0 m pc ls [.int r9])) (H : Heap) (locs : List Loc) (ls : Array Slot) (hP : va_P D vwCl (List.flatten [clP cI cZ cS O k g a d w0 c f z V T n K G L v]) H) (hD : va_D A (List.flatten [clP cI cZ cS O k g a d w0 c f z V T n K G L v])) (hS : va_S A s.heap H locs) (hl : lv_has ls 6 [(5, .int (nI (1 + upN (sh9 y 3) 99))), (4, .int (nI (upN y 7))), (3, .int (nI (upN y 8))), (2, .int y), (1, .int x), (0, .ref (O 0))]) : W p l e RM_act s m args below meth cd H locs 0 0 Q (F0 m 233 ls []) := by
  obtain ⟨hx, hb, hml, hown, hts⟩ := id X
  have k8 : upN y 8 < 8 := up_lt9 _ (by decide)
  have k7 : upN y 7 < 7 := up_lt9 _ (by decide)
  have u99 : upN (sh9 y 3) 99 < 99 := up_lt9 _ (by decide)
  refine lv_aload_n hx hb dL_act_233 rfl (lv_at hl 5 rfl) ?_
  refine lv_iload_n hx hb dL_act_234 rfl (lv_at hl 2 rfl) ?_
  refine lv_iload_n hx hb dL_act_235 rfl (lv_at hl 3 rfl) ?_
  refine lv_iconst (v := 3) hx hb dL_act_236 (by decide) ?_
  refine lv_ishr hx hb dL_act_237 ?_
  refine lv_eqi (y := sh9 y 3) rfl ?_
  refine lv_bipush (v := 10) hx hb dL_act_238 (by decide) ?_
  refine kcallSJ (U := Unit) (As := [.int (sh9 y 3), .int 10]) (rest := [.int (nI (upN y 8)), .ref (O 0)]) (Wr := [clP cI cZ cS O k g a d w0 c f z V T n K G L v]) (Wc := []) (Wo := fun _ => []) X (c_L_up l D (tyL cI cZ cS cJ) (sh9 y 3) 10 (by decide) (by decide)) (va_cwS 2 hts gL_act_L_up rfl rfl rfl (by decide +kernel) ⟨Nat.le_of_ble_eq_true rfl, Nat.le_of_ble_eq_true rfl⟩) hK (hP) (hD) hS hA rfl hl.1 rfl (Nat.le_of_ble_eq_true rfl) dL_act_240 ⟨Nat.le_of_ble_eq_true rfl, Nat.le_of_ble_eq_true rfl⟩ (fun u H locs hu hP hD hS => ?_)
  have hP : va_P D vwCl (List.flatten [clP cI cZ cS O k g a d w0 c f z V T n K G L v]) _ := hP
  have hD : va_D A (List.flatten [clP cI cZ cS O k g a d w0 c f z V T n K G L v]) := hD
  have hu240 : upN (sh9 y 3) 10 < 10 := up_lt9 _ (by decide)
  refine kcallVJ (U := Unit) (As := [.int (nI (upN y 8)), .int (nI (upN (sh9 y 3) 10))]) (rest := []) (Wr := []) (Wc := [clP cI cZ cS O k g a d w0 c f z V T n K G L v]) (Wo := fun u => [clP cI cZ cS O k g a d w0 (cN c z) (fN f z) (savZ z) (vput (savV V z) (leaS (V 0) (upN y 8) (nI (upN (sh9 y 3) 10)))) T n K G L v]) X (k_leak l D cI cZ cS cJ O k g a d w0 c f z V T n K G L v (upN y 8) (nI (upN (sh9 y 3) 10)) hz hf hO (by omega) (nI_pos (by omega)) (nI_leq (a := upN (sh9 y 3) 10) (b := 9) (by omega) (by decide))) (cwV 2 hts gL_act_X6_leak rfl rfl rfl (by decide +kernel) ⟨Nat.le_of_ble_eq_true rfl, Nat.le_of_ble_eq_true rfl⟩) hK hP hD hS hA 0 6 rfl rfl rfl hl.1 rfl (Nat.le_of_ble_eq_true rfl) dL_act_243 ⟨Nat.le_of_ble_eq_true rfl, Nat.le_of_ble_eq_true rfl⟩ (fun u H locs hu hP hD hS => ?_)
  have hP : va_P D vwCl (List.flatten [clP cI cZ cS O k g a d w0 (cN c z) (fN f z) (savZ z) (vput (savV V z) (leaS (V 0) (upN y 8) (nI (upN (sh9 y 3) 10)))) T n K G L v]) _ := hP
  have hD : va_D A (List.flatten [clP cI cZ cS O k g a d w0 (cN c z) (fN f z) (savZ z) (vput (savV V z) (leaS (V 0) (upN y 8) (nI (upN (sh9 y 3) 10)))) T n K G L v]) := hD
  refine lv_eqi (y := V 0 2 (upN y 8)) (rfl) ?_
  exact kk (leaS (V 0) (upN y 8) (nI (upN (sh9 y 3) 10))) (V 0 2 (upN y 8)) (rfl) _ _ _ _ hP hD hS dL_act_246

set_option maxHeartbeats 4000000 in
set_option maxRecDepth 100000 in
theorem ac_tun {p : Program} {e : Env} {s : State} {m : MethodId} {args : Array Value} {below : List Frame} {meth : Method} {cd : Code} {Q : State → Prop} {A : Nat → Prop} (l : Launch) (D : va_G) (cI cZ cS cJ : ClassId) (X : CallFix p m cd cL_act 6 s args wsL_act RL) (hK : va_K D vwCl (tyL cI cZ cS cJ) s) (hA : ∀ q, s.heap.size ≤ q → A q) (O k g a d : Nat → Nat) (w0 : Int32) (c : Nat → Nat → Nat) (f : Nat → Option Nat) (z : Nat) (V : Nat → Nat → Nat → Int32) (T : Nat → Int32) (n : Nat) (K G : Nat → Nat → Int32) (L : Nat → Int32) (v : Int32) (x y : Int32) (hz : z ≤ 6) (hf : ∀ i, i < 6 → f i = some (c i 0)) (hO : OK (V 0)) (hw0 : ¬ w0 = 0) (hO7 : OK (V 7)) (kk : ∀ (S9 : Nat → Nat → Int32) (r9 : Int32), aTun y (V 0) = (S9, r9) → ∀ (H : Heap) (locs : List Loc) (pc : Nat) (ls : Array Slot), va_P D vwCl (List.flatten [clP cI cZ cS O k g a d w0 (cN c z) (fN f z) (savZ z) (vput (savV V z) S9) T n K G L v]) H → va_D A (List.flatten [clP cI cZ cS O k g a d w0 (cN c z) (fN f z) (savZ z) (vput (savV V z) S9) T n K G L v]) → va_S A s.heap H locs → decode cL_act pc = .ok (.ireturn, 1) → W p l e RM_act s m args below meth cd H locs 0 0 Q (F0 m pc ls [.int r9])) (H : Heap) (locs : List Loc) (ls : Array Slot) (hP : va_P D vwCl (List.flatten [clP cI cZ cS O k g a d w0 c f z V T n K G L v]) H) (hD : va_D A (List.flatten [clP cI cZ cS O k g a d w0 c f z V T n K G L v])) (hS : va_S A s.heap H locs) (hl : lv_has ls 6 [(5, .int (nI (1 + upN (sh9 y 3) 99))), (4, .int (nI (upN y 7))), (3, .int (nI (upN y 8))), (2, .int y), (1, .int x), (0, .ref (O 0))]) : W p l e RM_act s m args below meth cd H locs 0 0 Q (F0 m 247 ls []) := by
  obtain ⟨hx, hb, hml, hown, hts⟩ := id X
  have k8 : upN y 8 < 8 := up_lt9 _ (by decide)
  have k7 : upN y 7 < 7 := up_lt9 _ (by decide)
  have u99 : upN (sh9 y 3) 99 < 99 := up_lt9 _ (by decide)
  refine lv_aload_n hx hb dL_act_247 rfl (lv_at hl 5 rfl) ?_
  refine lv_iload_n hx hb dL_act_248 rfl (lv_at hl 2 rfl) ?_
  refine lv_iload_n hx hb dL_act_249 rfl (lv_at hl 3 rfl) ?_
  refine lv_iconst (v := 3) hx hb dL_act_250 (by decide) ?_
  refine lv_ishr hx hb dL_act_251 ?_
  refine lv_eqi (y := sh9 y 3) rfl ?_
  refine lv_bipush (v := 41) hx hb dL_act_252 (by decide) ?_
  refine kcallSJ (U := Unit) (As := [.int (sh9 y 3), .int 41]) (rest := [.int (nI (upN y 8)), .ref (O 0)]) (Wr := [clP cI cZ cS O k g a d w0 c f z V T n K G L v]) (Wc := []) (Wo := fun _ => []) X (c_L_up l D (tyL cI cZ cS cJ) (sh9 y 3) 41 (by decide) (by decide)) (va_cwS 2 hts gL_act_L_up rfl rfl rfl (by decide +kernel) ⟨Nat.le_of_ble_eq_true rfl, Nat.le_of_ble_eq_true rfl⟩) hK (hP) (hD) hS hA rfl hl.1 rfl (Nat.le_of_ble_eq_true rfl) dL_act_254 ⟨Nat.le_of_ble_eq_true rfl, Nat.le_of_ble_eq_true rfl⟩ (fun u H locs hu hP hD hS => ?_)
  have hP : va_P D vwCl (List.flatten [clP cI cZ cS O k g a d w0 c f z V T n K G L v]) _ := hP
  have hD : va_D A (List.flatten [clP cI cZ cS O k g a d w0 c f z V T n K G L v]) := hD
  have hu254 : upN (sh9 y 3) 41 < 41 := up_lt9 _ (by decide)
  refine lv_bipush (v := 20) hx hb dL_act_257 (by decide) ?_
  refine lv_isub hx hb dL_act_259 ?_
  refine kcallVJ (U := Unit) (As := [.int (nI (upN y 8)), .int ((nI (upN (sh9 y 3) 41)) - 20)]) (rest := []) (Wr := []) (Wc := [clP cI cZ cS O k g a d w0 c f z V T n K G L v]) (Wo := fun u => [clP cI cZ cS O k g a d w0 (cN c z) (fN f z) (savZ z) (vput (savV V z) (tunS (V 0) (upN y 8) ((nI (upN (sh9 y 3) 41)) - 20))) T n K G L v]) X (k_tune l D cI cZ cS cJ O k g a d w0 c f z V T n K G L v (upN y 8) ((nI (upN (sh9 y 3) 41)) - 20) hz hf hO (by omega) (tu_1 hu254) (tu_2 hu254)) (cwV 2 hts gL_act_X6_tune rfl rfl rfl (by decide +kernel) ⟨Nat.le_of_ble_eq_true rfl, Nat.le_of_ble_eq_true rfl⟩) hK hP hD hS hA 0 6 rfl rfl rfl hl.1 rfl (Nat.le_of_ble_eq_true rfl) dL_act_260 ⟨Nat.le_of_ble_eq_true rfl, Nat.le_of_ble_eq_true rfl⟩ (fun u H locs hu hP hD hS => ?_)
  have hP : va_P D vwCl (List.flatten [clP cI cZ cS O k g a d w0 (cN c z) (fN f z) (savZ z) (vput (savV V z) (tunS (V 0) (upN y 8) ((nI (upN (sh9 y 3) 41)) - 20))) T n K G L v]) _ := hP
  have hD : va_D A (List.flatten [clP cI cZ cS O k g a d w0 (cN c z) (fN f z) (savZ z) (vput (savV V z) (tunS (V 0) (upN y 8) ((nI (upN (sh9 y 3) 41)) - 20))) T n K G L v]) := hD
  refine lv_eqi (y := tel (V 0) (upN y 8)) (rfl) ?_
  exact kk (tunS (V 0) (upN y 8) ((nI (upN (sh9 y 3) 41)) - 20)) (tel (V 0) (upN y 8)) (rfl) _ _ _ _ hP hD hS dL_act_263

set_option maxHeartbeats 4000000 in
set_option maxRecDepth 100000 in
theorem ac_not {p : Program} {e : Env} {s : State} {m : MethodId} {args : Array Value} {below : List Frame} {meth : Method} {cd : Code} {Q : State → Prop} {A : Nat → Prop} (l : Launch) (D : va_G) (cI cZ cS cJ : ClassId) (X : CallFix p m cd cL_act 6 s args wsL_act RL) (hK : va_K D vwCl (tyL cI cZ cS cJ) s) (hA : ∀ q, s.heap.size ≤ q → A q) (O k g a d : Nat → Nat) (w0 : Int32) (c : Nat → Nat → Nat) (f : Nat → Option Nat) (z : Nat) (V : Nat → Nat → Nat → Int32) (T : Nat → Int32) (n : Nat) (K G : Nat → Nat → Int32) (L : Nat → Int32) (v : Int32) (x y : Int32) (hz : z ≤ 6) (hf : ∀ i, i < 6 → f i = some (c i 0)) (hO : OK (V 0)) (hw0 : ¬ w0 = 0) (hO7 : OK (V 7)) (kk : ∀ (S9 : Nat → Nat → Int32) (r9 : Int32), aNot y (V 0) = (S9, r9) → ∀ (H : Heap) (locs : List Loc) (pc : Nat) (ls : Array Slot), va_P D vwCl (List.flatten [clP cI cZ cS O k g a d w0 (cN c z) (fN f z) (savZ z) (vput (savV V z) S9) T n K G L v]) H → va_D A (List.flatten [clP cI cZ cS O k g a d w0 (cN c z) (fN f z) (savZ z) (vput (savV V z) S9) T n K G L v]) → va_S A s.heap H locs → decode cL_act pc = .ok (.ireturn, 1) → W p l e RM_act s m args below meth cd H locs 0 0 Q (F0 m pc ls [.int r9])) (H : Heap) (locs : List Loc) (ls : Array Slot) (hP : va_P D vwCl (List.flatten [clP cI cZ cS O k g a d w0 c f z V T n K G L v]) H) (hD : va_D A (List.flatten [clP cI cZ cS O k g a d w0 c f z V T n K G L v])) (hS : va_S A s.heap H locs) (hl : lv_has ls 6 [(5, .int (nI (1 + upN (sh9 y 3) 99))), (4, .int (nI (upN y 7))), (3, .int (nI (upN y 8))), (2, .int y), (1, .int x), (0, .ref (O 0))]) : W p l e RM_act s m args below meth cd H locs 0 0 Q (F0 m 264 ls []) := by
  obtain ⟨hx, hb, hml, hown, hts⟩ := id X
  have k8 : upN y 8 < 8 := up_lt9 _ (by decide)
  have k7 : upN y 7 < 7 := up_lt9 _ (by decide)
  have u99 : upN (sh9 y 3) 99 < 99 := up_lt9 _ (by decide)
  refine lv_aload_n hx hb dL_act_264 rfl (lv_at hl 5 rfl) ?_
  refine lv_iload_n hx hb dL_act_265 rfl (lv_at hl 2 rfl) ?_
  refine kcallVJ (U := Unit) (As := [.int (nI (upN y 8))]) (rest := []) (Wr := []) (Wc := [clP cI cZ cS O k g a d w0 c f z V T n K G L v]) (Wo := fun u => [clP cI cZ cS O k g a d w0 (cN c z) (fN f z) (savZ z) (vput (savV V z) (notS (V 0) (cy (V 0)) (upN y 8))) T n K G L v]) X (k_note l D cI cZ cS cJ O k g a d w0 c f z V T n K G L v (upN y 8) hz hf hO (by omega)) (cwV 1 hts gL_act_X6_note rfl rfl rfl (by decide +kernel) ⟨Nat.le_of_ble_eq_true rfl, Nat.le_of_ble_eq_true rfl⟩) hK hP hD hS hA 0 6 rfl rfl rfl hl.1 rfl (Nat.le_of_ble_eq_true rfl) dL_act_266 ⟨Nat.le_of_ble_eq_true rfl, Nat.le_of_ble_eq_true rfl⟩ (fun u H locs hu hP hD hS => ?_)
  have hP : va_P D vwCl (List.flatten [clP cI cZ cS O k g a d w0 (cN c z) (fN f z) (savZ z) (vput (savV V z) (notS (V 0) (cy (V 0)) (upN y 8))) T n K G L v]) _ := hP
  have hD : va_D A (List.flatten [clP cI cZ cS O k g a d w0 (cN c z) (fN f z) (savZ z) (vput (savV V z) (notS (V 0) (cy (V 0)) (upN y 8))) T n K G L v]) := hD
  refine lv_eqi (y := tel (V 0) (upN y 8)) (rfl) ?_
  exact kk (notS (V 0) (cy (V 0)) (upN y 8)) (tel (V 0) (upN y 8)) (rfl) _ _ _ _ hP hD hS dL_act_269

set_option maxHeartbeats 4000000 in
set_option maxRecDepth 100000 in
theorem ac_rib {p : Program} {e : Env} {s : State} {m : MethodId} {args : Array Value} {below : List Frame} {meth : Method} {cd : Code} {Q : State → Prop} {A : Nat → Prop} (l : Launch) (D : va_G) (cI cZ cS cJ : ClassId) (X : CallFix p m cd cL_act 6 s args wsL_act RL) (hK : va_K D vwCl (tyL cI cZ cS cJ) s) (hA : ∀ q, s.heap.size ≤ q → A q) (O k g a d : Nat → Nat) (w0 : Int32) (c : Nat → Nat → Nat) (f : Nat → Option Nat) (z : Nat) (V : Nat → Nat → Nat → Int32) (T : Nat → Int32) (n : Nat) (K G : Nat → Nat → Int32) (L : Nat → Int32) (v : Int32) (x y : Int32) (hz : z ≤ 6) (hf : ∀ i, i < 6 → f i = some (c i 0)) (hO : OK (V 0)) (hw0 : ¬ w0 = 0) (hO7 : OK (V 7)) (kk : ∀ (S9 : Nat → Nat → Int32) (r9 : Int32), aRib y (V 0) = (S9, r9) → ∀ (H : Heap) (locs : List Loc) (pc : Nat) (ls : Array Slot), va_P D vwCl (List.flatten [clP cI cZ cS O k g a d w0 (cN c z) (fN f z) (savZ z) (vput (savV V z) S9) T n K G L v]) H → va_D A (List.flatten [clP cI cZ cS O k g a d w0 (cN c z) (fN f z) (savZ z) (vput (savV V z) S9) T n K G L v]) → va_S A s.heap H locs → decode cL_act pc = .ok (.ireturn, 1) → W p l e RM_act s m args below meth cd H locs 0 0 Q (F0 m pc ls [.int r9])) (H : Heap) (locs : List Loc) (ls : Array Slot) (hP : va_P D vwCl (List.flatten [clP cI cZ cS O k g a d w0 c f z V T n K G L v]) H) (hD : va_D A (List.flatten [clP cI cZ cS O k g a d w0 c f z V T n K G L v])) (hS : va_S A s.heap H locs) (hl : lv_has ls 6 [(5, .int (nI (1 + upN (sh9 y 3) 99))), (4, .int (nI (upN y 7))), (3, .int (nI (upN y 8))), (2, .int y), (1, .int x), (0, .ref (O 0))]) : W p l e RM_act s m args below meth cd H locs 0 0 Q (F0 m 270 ls []) := by
  obtain ⟨hx, hb, hml, hown, hts⟩ := id X
  have k8 : upN y 8 < 8 := up_lt9 _ (by decide)
  have k7 : upN y 7 < 7 := up_lt9 _ (by decide)
  have u99 : upN (sh9 y 3) 99 < 99 := up_lt9 _ (by decide)
  refine lv_aload_n hx hb dL_act_270 rfl (lv_at hl 5 rfl) ?_
  refine lv_iload hx hb dL_act_271 (lv_at hl 1 rfl) ?_
  refine lv_iconst (v := 5) hx hb dL_act_273 (by decide) ?_
  refine kcallVJ (U := Unit) (As := [.int (nI (upN y 7)), .int 5]) (rest := []) (Wr := []) (Wc := [clP cI cZ cS O k g a d w0 c f z V T n K G L v]) (Wo := fun u => [clP cI cZ cS O k g a d w0 c f z V T n K G L v]) X (k_why l D cI cZ cS cJ O k g a d w0 c f z V T n K G L v (upN y 7) 5 (by omega) (fun _ => by omega) (by omega)) (cwV 2 hts gL_act_X6_why rfl rfl rfl (by decide +kernel) ⟨Nat.le_of_ble_eq_true rfl, Nat.le_of_ble_eq_true rfl⟩) hK hP hD hS hA 0 6 rfl rfl rfl hl.1 rfl (Nat.le_of_ble_eq_true rfl) dL_act_274 ⟨Nat.le_of_ble_eq_true rfl, Nat.le_of_ble_eq_true rfl⟩ (fun u H locs hu hP hD hS => ?_)
  have hP : va_P D vwCl (List.flatten [clP cI cZ cS O k g a d w0 c f z V T n K G L v]) _ := hP
  have hD : va_D A (List.flatten [clP cI cZ cS O k g a d w0 c f z V T n K G L v]) := hD
  refine lv_eqi (y := wn5 (V 0) (upN y 7)) (rfl) ?_
  refine lv_if_ne (tgt := 289) hx hb dL_act_277 (by decide) (fun c277 => ?_) (fun c277 => ?_)
  · skip
    refine lv_aload_n hx hb dL_act_289 rfl (lv_at hl 5 rfl) ?_
    refine lv_iload hx hb dL_act_290 (lv_at hl 1 rfl) ?_
    refine lv_iconst (v := 4) hx hb dL_act_292 (by decide) ?_
    refine kcallVJ (U := Unit) (As := [.int (nI (upN y 7)), .int 4]) (rest := []) (Wr := []) (Wc := [clP cI cZ cS O k g a d w0 c f z V T n K G L v]) (Wo := fun u => [clP cI cZ cS O k g a d w0 c f z V T n K G L v]) X (k_why l D cI cZ cS cJ O k g a d w0 c f z V T n K G L v (upN y 7) 4 (by omega) (fun _ => by omega) (by omega)) (cwV 2 hts gL_act_X6_why rfl rfl rfl (by decide +kernel) ⟨Nat.le_of_ble_eq_true rfl, Nat.le_of_ble_eq_true rfl⟩) hK hP hD hS hA 0 6 rfl rfl rfl hl.1 rfl (Nat.le_of_ble_eq_true rfl) dL_act_293 ⟨Nat.le_of_ble_eq_true rfl, Nat.le_of_ble_eq_true rfl⟩ (fun u H locs hu hP hD hS => ?_)
    have hP : va_P D vwCl (List.flatten [clP cI cZ cS O k g a d w0 c f z V T n K G L v]) _ := hP
    have hD : va_D A (List.flatten [clP cI cZ cS O k g a d w0 c f z V T n K G L v]) := hD
    refine lv_eqi (y := wnt (V 0) (upN y 7) 100) (rfl) ?_
    refine lv_if_ne (tgt := 320) hx hb dL_act_296 (by decide) (fun c296 => ?_) (fun c296 => ?_)
    · skip
      refine lv_aload_n hx hb dL_act_320 rfl (lv_at hl 5 rfl) ?_
      refine lv_iload hx hb dL_act_321 (lv_at hl 1 rfl) ?_
      refine lv_iload_n hx hb dL_act_323 rfl (lv_at hl 3 rfl) ?_
      refine lv_iconst (v := 3) hx hb dL_act_324 (by decide) ?_
      refine lv_ishr hx hb dL_act_325 ?_
      refine lv_eqi (y := sh9 y 3) rfl ?_
      refine lv_sipush (v := 501) hx hb dL_act_326 (by decide) ?_
      refine kcallSJ (U := Unit) (As := [.int (sh9 y 3), .int 501]) (rest := [.int (nI (upN y 7)), .ref (O 0)]) (Wr := [clP cI cZ cS O k g a d w0 c f z V T n K G L v]) (Wc := []) (Wo := fun _ => []) X (c_L_up l D (tyL cI cZ cS cJ) (sh9 y 3) 501 (by decide) (by decide)) (va_cwS 2 hts gL_act_L_up rfl rfl rfl (by decide +kernel) ⟨Nat.le_of_ble_eq_true rfl, Nat.le_of_ble_eq_true rfl⟩) hK (hP) (hD) hS hA rfl hl.1 rfl (Nat.le_of_ble_eq_true rfl) dL_act_329 ⟨Nat.le_of_ble_eq_true rfl, Nat.le_of_ble_eq_true rfl⟩ (fun u H locs hu hP hD hS => ?_)
      have hP : va_P D vwCl (List.flatten [clP cI cZ cS O k g a d w0 c f z V T n K G L v]) _ := hP
      have hD : va_D A (List.flatten [clP cI cZ cS O k g a d w0 c f z V T n K G L v]) := hD
      have hu329 : upN (sh9 y 3) 501 < 501 := up_lt9 _ (by decide)
      refine kcallVJ (U := Unit) (As := [.int (nI (upN y 7)), .int (nI (upN (sh9 y 3) 501))]) (rest := []) (Wr := []) (Wc := [clP cI cZ cS O k g a d w0 c f z V T n K G L v]) (Wo := fun u => [clP cI cZ cS O k g a d w0 (cN c z) (fN f z) (savZ z) (vput (savV V z) (beaS (V 0) (upN y 7) (nI (upN (sh9 y 3) 501)))) T n K G L v]) X (k_bear l D cI cZ cS cJ O k g a d w0 c f z V T n K G L v (upN y 7) (nI (upN (sh9 y 3) 501)) hz hf hO (by omega) (nI_pos (by omega)) (nI_leq (a := upN (sh9 y 3) 501) (b := 500) (by omega) (by decide))) (cwV 2 hts gL_act_X6_bear rfl rfl rfl (by decide +kernel) ⟨Nat.le_of_ble_eq_true rfl, Nat.le_of_ble_eq_true rfl⟩) hK hP hD hS hA 0 6 rfl rfl rfl hl.1 rfl (Nat.le_of_ble_eq_true rfl) dL_act_332 ⟨Nat.le_of_ble_eq_true rfl, Nat.le_of_ble_eq_true rfl⟩ (fun u H locs hu hP hD hS => ?_)
      have hP : va_P D vwCl (List.flatten [clP cI cZ cS O k g a d w0 (cN c z) (fN f z) (savZ z) (vput (savV V z) (beaS (V 0) (upN y 7) (nI (upN (sh9 y 3) 501)))) T n K G L v]) _ := hP
      have hD : va_D A (List.flatten [clP cI cZ cS O k g a d w0 (cN c z) (fN f z) (savZ z) (vput (savV V z) (beaS (V 0) (upN y 7) (nI (upN (sh9 y 3) 501)))) T n K G L v]) := hD
      refine lv_eqi (y := V 0 5 (upN y 7)) (rfl) ?_
      exact kk (beaS (V 0) (upN y 7) (nI (upN (sh9 y 3) 501))) (V 0 5 (upN y 7)) (by unfold aRib; rw [if_neg c277, if_neg c296]) _ _ _ _ hP hD hS dL_act_335
    · skip
      refine lv_aload_n hx hb dL_act_299 rfl (lv_at hl 5 rfl) ?_
      refine lv_iload hx hb dL_act_300 (lv_at hl 1 rfl) ?_
      refine lv_bipush (v := 100) hx hb dL_act_302 (by decide) ?_
      refine lv_iload_n hx hb dL_act_304 rfl (lv_at hl 3 rfl) ?_
      refine lv_iconst (v := 3) hx hb dL_act_305 (by decide) ?_
      refine lv_ishr hx hb dL_act_306 ?_
      refine lv_eqi (y := sh9 y 3) rfl ?_
      refine lv_sipush (v := 201) hx hb dL_act_307 (by decide) ?_
      refine kcallSJ (U := Unit) (As := [.int (sh9 y 3), .int 201]) (rest := [.int 100, .int (nI (upN y 7)), .ref (O 0)]) (Wr := [clP cI cZ cS O k g a d w0 c f z V T n K G L v]) (Wc := []) (Wo := fun _ => []) X (c_L_up l D (tyL cI cZ cS cJ) (sh9 y 3) 201 (by decide) (by decide)) (va_cwS 2 hts gL_act_L_up rfl rfl rfl (by decide +kernel) ⟨Nat.le_of_ble_eq_true rfl, Nat.le_of_ble_eq_true rfl⟩) hK (hP) (hD) hS hA rfl hl.1 rfl (Nat.le_of_ble_eq_true rfl) dL_act_310 ⟨Nat.le_of_ble_eq_true rfl, Nat.le_of_ble_eq_true rfl⟩ (fun u H locs hu hP hD hS => ?_)
      have hP : va_P D vwCl (List.flatten [clP cI cZ cS O k g a d w0 c f z V T n K G L v]) _ := hP
      have hD : va_D A (List.flatten [clP cI cZ cS O k g a d w0 c f z V T n K G L v]) := hD
      have hu310 : upN (sh9 y 3) 201 < 201 := up_lt9 _ (by decide)
      refine lv_iadd hx hb dL_act_313 ?_
      refine lv_eqi (y := nI (100 + (upN (sh9 y 3) 201))) (nI_add _ _) ?_
      refine kcallVJ (U := Unit) (As := [.int (nI (upN y 7)), .int (nI (100 + (upN (sh9 y 3) 201)))]) (rest := []) (Wr := []) (Wc := [clP cI cZ cS O k g a d w0 c f z V T n K G L v]) (Wo := fun u => [clP cI cZ cS O k g a d w0 (cN c z) (fN f z) (savZ z) (vput (savV V z) (mended (tieS (V 0) (upN y 7) (nI (100 + (upN (sh9 y 3) 201)))))) T n K G L v]) X (k_tie l D cI cZ cS cJ O k g a d w0 c f z V T n K G L v (upN y 7) (nI (100 + (upN (sh9 y 3) 201))) hz hf hO (by omega) (nI_pos (by omega)) (nI_leq (a := 100 + upN (sh9 y 3) 201) (b := 300) (by omega) (by decide)) (tye_w c296 (nI_leq (a := 100) (b := 100 + upN (sh9 y 3) 201) (by omega) (by omega)))) (cwV 2 hts gL_act_X6_tie rfl rfl rfl (by decide +kernel) ⟨Nat.le_of_ble_eq_true rfl, Nat.le_of_ble_eq_true rfl⟩) hK hP hD hS hA 0 6 rfl rfl rfl hl.1 rfl (Nat.le_of_ble_eq_true rfl) dL_act_314 ⟨Nat.le_of_ble_eq_true rfl, Nat.le_of_ble_eq_true rfl⟩ (fun u H locs hu hP hD hS => ?_)
      have hP : va_P D vwCl (List.flatten [clP cI cZ cS O k g a d w0 (cN c z) (fN f z) (savZ z) (vput (savV V z) (mended (tieS (V 0) (upN y 7) (nI (100 + (upN (sh9 y 3) 201)))))) T n K G L v]) _ := hP
      have hD : va_D A (List.flatten [clP cI cZ cS O k g a d w0 (cN c z) (fN f z) (savZ z) (vput (savV V z) (mended (tieS (V 0) (upN y 7) (nI (100 + (upN (sh9 y 3) 201)))))) T n K G L v]) := hD
      refine lv_eqi (y := nI (se (mended (tieS (V 0) (upN y 7) (nI (100 + (upN (sh9 y 3) 201))))) (7 - (upN y 7)) (upN y 7) - ss (mended (tieS (V 0) (upN y 7) (nI (100 + (upN (sh9 y 3) 201))))) (upN y 7) + 1)) (rfl) ?_
      refine lv_goto (tgt := 335) hx hb dL_act_317 (by decide) ?_
      exact kk (mended (tieS (V 0) (upN y 7) (nI (100 + (upN (sh9 y 3) 201))))) (nI (se (mended (tieS (V 0) (upN y 7) (nI (100 + (upN (sh9 y 3) 201))))) (7 - (upN y 7)) (upN y 7) - ss (mended (tieS (V 0) (upN y 7) (nI (100 + (upN (sh9 y 3) 201))))) (upN y 7) + 1)) (by unfold aRib; rw [if_neg c277, if_pos c296]) _ _ _ _ hP hD hS dL_act_335
  · skip
    refine lv_aload_n hx hb dL_act_280 rfl (lv_at hl 5 rfl) ?_
    refine lv_iload hx hb dL_act_281 (lv_at hl 1 rfl) ?_
    refine kcallVJ (U := Unit) (As := [.int (nI (upN y 7))]) (rest := []) (Wr := []) (Wc := [clP cI cZ cS O k g a d w0 c f z V T n K G L v]) (Wo := fun u => [clP cI cZ cS O k g a d w0 (cN c z) (fN f z) (savZ z) (vput (savV V z) (mended (cutS (V 0) (upN y 7)))) T n K G L v]) X (k_cut l D cI cZ cS cJ O k g a d w0 c f z V T n K G L v (upN y 7) hz hf hO (by omega) c277) (cwV 1 hts gL_act_X6_cut rfl rfl rfl (by decide +kernel) ⟨Nat.le_of_ble_eq_true rfl, Nat.le_of_ble_eq_true rfl⟩) hK hP hD hS hA 0 6 rfl rfl rfl hl.1 rfl (Nat.le_of_ble_eq_true rfl) dL_act_283 ⟨Nat.le_of_ble_eq_true rfl, Nat.le_of_ble_eq_true rfl⟩ (fun u H locs hu hP hD hS => ?_)
    have hP : va_P D vwCl (List.flatten [clP cI cZ cS O k g a d w0 (cN c z) (fN f z) (savZ z) (vput (savV V z) (mended (cutS (V 0) (upN y 7)))) T n K G L v]) _ := hP
    have hD : va_D A (List.flatten [clP cI cZ cS O k g a d w0 (cN c z) (fN f z) (savZ z) (vput (savV V z) (mended (cutS (V 0) (upN y 7)))) T n K G L v]) := hD
    refine lv_eqi (y := sm (ht (cutS (V 0) (upN y 7))) 8 - sm (V 0 6) 8) (rfl) ?_
    refine lv_goto (tgt := 335) hx hb dL_act_286 (by decide) ?_
    exact kk (mended (cutS (V 0) (upN y 7))) (sm (ht (cutS (V 0) (upN y 7))) 8 - sm (V 0 6) 8) (by unfold aRib; rw [if_pos c277]) _ _ _ _ hP hD hS dL_act_335

set_option maxHeartbeats 4000000 in
set_option maxRecDepth 100000 in
theorem ac_bea {p : Program} {e : Env} {s : State} {m : MethodId} {args : Array Value} {below : List Frame} {meth : Method} {cd : Code} {Q : State → Prop} {A : Nat → Prop} (l : Launch) (D : va_G) (cI cZ cS cJ : ClassId) (X : CallFix p m cd cL_act 6 s args wsL_act RL) (hK : va_K D vwCl (tyL cI cZ cS cJ) s) (hA : ∀ q, s.heap.size ≤ q → A q) (O k g a d : Nat → Nat) (w0 : Int32) (c : Nat → Nat → Nat) (f : Nat → Option Nat) (z : Nat) (V : Nat → Nat → Nat → Int32) (T : Nat → Int32) (n : Nat) (K G : Nat → Nat → Int32) (L : Nat → Int32) (v : Int32) (x y : Int32) (hz : z ≤ 6) (hf : ∀ i, i < 6 → f i = some (c i 0)) (hO : OK (V 0)) (hw0 : ¬ w0 = 0) (hO7 : OK (V 7)) (kk : ∀ (S9 : Nat → Nat → Int32) (r9 : Int32), aBea y (V 0) = (S9, r9) → ∀ (H : Heap) (locs : List Loc) (pc : Nat) (ls : Array Slot), va_P D vwCl (List.flatten [clP cI cZ cS O k g a d w0 (cN c z) (fN f z) (savZ z) (vput (savV V z) S9) T n K G L v]) H → va_D A (List.flatten [clP cI cZ cS O k g a d w0 (cN c z) (fN f z) (savZ z) (vput (savV V z) S9) T n K G L v]) → va_S A s.heap H locs → decode cL_act pc = .ok (.ireturn, 1) → W p l e RM_act s m args below meth cd H locs 0 0 Q (F0 m pc ls [.int r9])) (H : Heap) (locs : List Loc) (ls : Array Slot) (hP : va_P D vwCl (List.flatten [clP cI cZ cS O k g a d w0 c f z V T n K G L v]) H) (hD : va_D A (List.flatten [clP cI cZ cS O k g a d w0 c f z V T n K G L v])) (hS : va_S A s.heap H locs) (hl : lv_has ls 6 [(5, .int (nI (1 + upN (sh9 y 3) 99))), (4, .int (nI (upN y 7))), (3, .int (nI (upN y 8))), (2, .int y), (1, .int x), (0, .ref (O 0))]) : W p l e RM_act s m args below meth cd H locs 0 0 Q (F0 m 336 ls []) := by
  obtain ⟨hx, hb, hml, hown, hts⟩ := id X
  have k8 : upN y 8 < 8 := up_lt9 _ (by decide)
  have k7 : upN y 7 < 7 := up_lt9 _ (by decide)
  have u99 : upN (sh9 y 3) 99 < 99 := up_lt9 _ (by decide)
  refine lv_aload_n hx hb dL_act_336 rfl (lv_at hl 5 rfl) ?_
  refine lv_iload hx hb dL_act_337 (lv_at hl 1 rfl) ?_
  refine lv_iload_n hx hb dL_act_339 rfl (lv_at hl 3 rfl) ?_
  refine lv_iconst (v := 3) hx hb dL_act_340 (by decide) ?_
  refine lv_ishr hx hb dL_act_341 ?_
  refine lv_eqi (y := sh9 y 3) rfl ?_
  refine lv_iload_n hx hb dL_act_342 rfl (lv_at hl 3 rfl) ?_
  refine lv_bipush (v := 12) hx hb dL_act_343 (by decide) ?_
  refine lv_ishr hx hb dL_act_345 ?_
  refine lv_eqi (y := sh9 y 12) rfl ?_
  refine lv_iconst (v := 1) hx hb dL_act_346 (by decide) ?_
  refine lv_iand hx hb dL_act_347 ?_
  refine lv_if_ne (tgt := 357) hx hb dL_act_348 (by decide) (fun c348 => ?_) (fun c348 => ?_)
  · skip
    refine lv_bipush (v := 50) hx hb dL_act_357 (by decide) ?_
    refine kcallSJ (U := Unit) (As := [.int (sh9 y 3), .int 50]) (rest := [.int (nI (upN y 7)), .ref (O 0)]) (Wr := [clP cI cZ cS O k g a d w0 c f z V T n K G L v]) (Wc := []) (Wo := fun _ => []) X (c_L_up l D (tyL cI cZ cS cJ) (sh9 y 3) 50 (by decide) (by decide)) (va_cwS 2 hts gL_act_L_up rfl rfl rfl (by decide +kernel) ⟨Nat.le_of_ble_eq_true rfl, Nat.le_of_ble_eq_true rfl⟩) hK (hP) (hD) hS hA rfl hl.1 rfl (Nat.le_of_ble_eq_true rfl) dL_act_359 ⟨Nat.le_of_ble_eq_true rfl, Nat.le_of_ble_eq_true rfl⟩ (fun u H locs hu hP hD hS => ?_)
    have hP : va_P D vwCl (List.flatten [clP cI cZ cS O k g a d w0 c f z V T n K G L v]) _ := hP
    have hD : va_D A (List.flatten [clP cI cZ cS O k g a d w0 c f z V T n K G L v]) := hD
    have hu359 : upN (sh9 y 3) 50 < 50 := up_lt9 _ (by decide)
    refine kcallVJ (U := Unit) (As := [.int (nI (upN y 7)), .int (nI (upN (sh9 y 3) 50))]) (rest := []) (Wr := []) (Wc := [clP cI cZ cS O k g a d w0 c f z V T n K G L v]) (Wo := fun u => [clP cI cZ cS O k g a d w0 (cN c z) (fN f z) (savZ z) (vput (savV V z) (beaS (V 0) (upN y 7) (nI (upN (sh9 y 3) 50)))) T n K G L v]) X (k_bear l D cI cZ cS cJ O k g a d w0 c f z V T n K G L v (upN y 7) (nI (upN (sh9 y 3) 50)) hz hf hO (by omega) (nI_pos (by omega)) (nI_leq (b := 500) (by omega) (by decide))) (cwV 2 hts gL_act_X6_bear rfl rfl rfl (by decide +kernel) ⟨Nat.le_of_ble_eq_true rfl, Nat.le_of_ble_eq_true rfl⟩) hK hP hD hS hA 0 6 rfl rfl rfl hl.1 rfl (Nat.le_of_ble_eq_true rfl) dL_act_362 ⟨Nat.le_of_ble_eq_true rfl, Nat.le_of_ble_eq_true rfl⟩ (fun u H locs hu hP hD hS => ?_)
    have hP : va_P D vwCl (List.flatten [clP cI cZ cS O k g a d w0 (cN c z) (fN f z) (savZ z) (vput (savV V z) (beaS (V 0) (upN y 7) (nI (upN (sh9 y 3) 50)))) T n K G L v]) _ := hP
    have hD : va_D A (List.flatten [clP cI cZ cS O k g a d w0 (cN c z) (fN f z) (savZ z) (vput (savV V z) (beaS (V 0) (upN y 7) (nI (upN (sh9 y 3) 50)))) T n K G L v]) := hD
    refine lv_eqi (y := V 0 5 (upN y 7)) (rfl) ?_
    exact kk (beaS (V 0) (upN y 7) (nI (upN (sh9 y 3) 50))) (V 0 5 (upN y 7)) (by unfold aBea; rw [if_neg c348]) _ _ _ _ hP hD hS dL_act_365
  · skip
    refine lv_sipush (v := 501) hx hb dL_act_351 (by decide) ?_
    refine lv_goto (tgt := 359) hx hb dL_act_354 (by decide) ?_
    refine kcallSJ (U := Unit) (As := [.int (sh9 y 3), .int 501]) (rest := [.int (nI (upN y 7)), .ref (O 0)]) (Wr := [clP cI cZ cS O k g a d w0 c f z V T n K G L v]) (Wc := []) (Wo := fun _ => []) X (c_L_up l D (tyL cI cZ cS cJ) (sh9 y 3) 501 (by decide) (by decide)) (va_cwS 2 hts gL_act_L_up rfl rfl rfl (by decide +kernel) ⟨Nat.le_of_ble_eq_true rfl, Nat.le_of_ble_eq_true rfl⟩) hK (hP) (hD) hS hA rfl hl.1 rfl (Nat.le_of_ble_eq_true rfl) dL_act_359 ⟨Nat.le_of_ble_eq_true rfl, Nat.le_of_ble_eq_true rfl⟩ (fun u H locs hu hP hD hS => ?_)
    have hP : va_P D vwCl (List.flatten [clP cI cZ cS O k g a d w0 c f z V T n K G L v]) _ := hP
    have hD : va_D A (List.flatten [clP cI cZ cS O k g a d w0 c f z V T n K G L v]) := hD
    have hu359 : upN (sh9 y 3) 501 < 501 := up_lt9 _ (by decide)
    refine kcallVJ (U := Unit) (As := [.int (nI (upN y 7)), .int (nI (upN (sh9 y 3) 501))]) (rest := []) (Wr := []) (Wc := [clP cI cZ cS O k g a d w0 c f z V T n K G L v]) (Wo := fun u => [clP cI cZ cS O k g a d w0 (cN c z) (fN f z) (savZ z) (vput (savV V z) (beaS (V 0) (upN y 7) (nI (upN (sh9 y 3) 501)))) T n K G L v]) X (k_bear l D cI cZ cS cJ O k g a d w0 c f z V T n K G L v (upN y 7) (nI (upN (sh9 y 3) 501)) hz hf hO (by omega) (nI_pos (by omega)) (nI_leq (b := 500) (by omega) (by decide))) (cwV 2 hts gL_act_X6_bear rfl rfl rfl (by decide +kernel) ⟨Nat.le_of_ble_eq_true rfl, Nat.le_of_ble_eq_true rfl⟩) hK hP hD hS hA 0 6 rfl rfl rfl hl.1 rfl (Nat.le_of_ble_eq_true rfl) dL_act_362 ⟨Nat.le_of_ble_eq_true rfl, Nat.le_of_ble_eq_true rfl⟩ (fun u H locs hu hP hD hS => ?_)
    have hP : va_P D vwCl (List.flatten [clP cI cZ cS O k g a d w0 (cN c z) (fN f z) (savZ z) (vput (savV V z) (beaS (V 0) (upN y 7) (nI (upN (sh9 y 3) 501)))) T n K G L v]) _ := hP
    have hD : va_D A (List.flatten [clP cI cZ cS O k g a d w0 (cN c z) (fN f z) (savZ z) (vput (savV V z) (beaS (V 0) (upN y 7) (nI (upN (sh9 y 3) 501)))) T n K G L v]) := hD
    refine lv_eqi (y := V 0 5 (upN y 7)) (rfl) ?_
    exact kk (beaS (V 0) (upN y 7) (nI (upN (sh9 y 3) 501))) (V 0 5 (upN y 7)) (by unfold aBea; rw [if_pos c348]) _ _ _ _ hP hD hS dL_act_365

set_option maxHeartbeats 4000000 in
set_option maxRecDepth 100000 in
theorem ac_bak {p : Program} {e : Env} {s : State} {m : MethodId} {args : Array Value} {below : List Frame} {meth : Method} {cd : Code} {Q : State → Prop} {A : Nat → Prop} (l : Launch) (D : va_G) (cI cZ cS cJ : ClassId) (X : CallFix p m cd cL_act 6 s args wsL_act RL) (hK : va_K D vwCl (tyL cI cZ cS cJ) s) (hA : ∀ q, s.heap.size ≤ q → A q) (O k g a d : Nat → Nat) (w0 : Int32) (c : Nat → Nat → Nat) (f : Nat → Option Nat) (z : Nat) (V : Nat → Nat → Nat → Int32) (T : Nat → Int32) (n : Nat) (K G : Nat → Nat → Int32) (L : Nat → Int32) (v : Int32) (x y : Int32) (hz : z ≤ 6) (hf : ∀ i, i < 6 → f i = some (c i 0)) (hO : OK (V 0)) (hw0 : ¬ w0 = 0) (hO7 : OK (V 7)) (kk : ∀ (S9 : Nat → Nat → Int32) (r9 : Int32), aBak y (V 0) (V 7) = (S9, r9) → ∀ (H : Heap) (locs : List Loc) (pc : Nat) (ls : Array Slot), va_P D vwCl (List.flatten [clP cI cZ cS O k g a d w0 (cN c z) (fN f z) (savZ z) (vput (savV V z) S9) T n K G L v]) H → va_D A (List.flatten [clP cI cZ cS O k g a d w0 (cN c z) (fN f z) (savZ z) (vput (savV V z) S9) T n K G L v]) → va_S A s.heap H locs → decode cL_act pc = .ok (.ireturn, 1) → W p l e RM_act s m args below meth cd H locs 0 0 Q (F0 m pc ls [.int r9])) (H : Heap) (locs : List Loc) (ls : Array Slot) (hP : va_P D vwCl (List.flatten [clP cI cZ cS O k g a d w0 c f z V T n K G L v]) H) (hD : va_D A (List.flatten [clP cI cZ cS O k g a d w0 c f z V T n K G L v])) (hS : va_S A s.heap H locs) (hl : lv_has ls 6 [(5, .int (nI (1 + upN (sh9 y 3) 99))), (4, .int (nI (upN y 7))), (3, .int (nI (upN y 8))), (2, .int y), (1, .int x), (0, .ref (O 0))]) : W p l e RM_act s m args below meth cd H locs 0 0 Q (F0 m 366 ls []) := by
  obtain ⟨hx, hb, hml, hown, hts⟩ := id X
  have k8 : upN y 8 < 8 := up_lt9 _ (by decide)
  have k7 : upN y 7 < 7 := up_lt9 _ (by decide)
  have u99 : upN (sh9 y 3) 99 < 99 := up_lt9 _ (by decide)
  refine lv_iload_n hx hb dL_act_366 rfl (lv_at hl 3 rfl) ?_
  refine lv_iconst (v := 3) hx hb dL_act_367 (by decide) ?_
  refine lv_iand hx hb dL_act_368 ?_
  refine lv_if_ne (tgt := 379) hx hb dL_act_369 (by decide) (fun c369 => ?_) (fun c369 => ?_)
  · skip
    refine lv_aload_n hx hb dL_act_379 rfl (lv_at hl 5 rfl) ?_
    refine lv_iconst (v := 3) hx hb dL_act_380 (by decide) ?_
    refine kcallVJ (U := Unit) (As := [.int 3]) (rest := []) (Wr := []) (Wc := [clP cI cZ cS O k g a d w0 c f z V T n K G L v]) (Wo := fun u => [clP cI cZ cS O k g a d w0 (cN c z) (fN f z) (savZ z) (vput (savV V z) (hrs (V 0) 3)) T n K G L v]) X (k_pass l D cI cZ cS cJ O k g a d w0 c f z V T n K G L v 3 hz hf hO (by decide) (by decide) (by omega)) (cwV 1 hts gL_act_X6_pass rfl rfl rfl (by decide +kernel) ⟨Nat.le_of_ble_eq_true rfl, Nat.le_of_ble_eq_true rfl⟩) hK hP hD hS hA 0 6 rfl rfl rfl hl.1 rfl (Nat.le_of_ble_eq_true rfl) dL_act_381 ⟨Nat.le_of_ble_eq_true rfl, Nat.le_of_ble_eq_true rfl⟩ (fun u H locs hu hP hD hS => ?_)
    have hP : va_P D vwCl (List.flatten [clP cI cZ cS O k g a d w0 (cN c z) (fN f z) (savZ z) (vput (savV V z) (hrs (V 0) 3)) T n K G L v]) _ := hP
    have hD : va_D A (List.flatten [clP cI cZ cS O k g a d w0 (cN c z) (fN f z) (savZ z) (vput (savV V z) (hrs (V 0) 3)) T n K G L v]) := hD
    refine lv_eqi (y := hrs (V 0) 3 12 4 - V 0 12 4) (rfl) ?_
    exact kk (hrs (V 0) 3) (hrs (V 0) 3 12 4 - V 0 12 4) (by unfold aBak; rw [if_neg c369]; rfl) _ _ _ _ hP hD hS dL_act_384
  · skip
    refine lv_aload_n hx hb dL_act_372 rfl (lv_at hl 5 rfl) ?_
    refine kcallVJ (U := Unit) (As := []) (rest := []) (Wr := []) (Wc := [clP cI cZ cS O k g a d w0 c f z V T n K G L v]) (Wo := fun u => [clP cI cZ cS O k g a d w0 (cN c z) (fN f z) (savZ z) (vput (savV V z) (V 7)) T n K G L v]) X (k_goBack l D cI cZ cS cJ O k g a d w0 c f z V T n K G L v hz hf hO hw0 hO7) (cwV 0 hts gL_act_X6_goBack rfl rfl rfl (by decide +kernel) ⟨Nat.le_of_ble_eq_true rfl, Nat.le_of_ble_eq_true rfl⟩) hK hP hD hS hA 0 6 rfl rfl rfl hl.1 rfl (Nat.le_of_ble_eq_true rfl) dL_act_373 ⟨Nat.le_of_ble_eq_true rfl, Nat.le_of_ble_eq_true rfl⟩ (fun u H locs hu hP hD hS => ?_)
    have hP : va_P D vwCl (List.flatten [clP cI cZ cS O k g a d w0 (cN c z) (fN f z) (savZ z) (vput (savV V z) (V 7)) T n K G L v]) _ := hP
    have hD : va_D A (List.flatten [clP cI cZ cS O k g a d w0 (cN c z) (fN f z) (savZ z) (vput (savV V z) (V 7)) T n K G L v]) := hD
    refine lv_eqi (y := V 7 12 0) (rfl) ?_
    refine lv_goto (tgt := 384) hx hb dL_act_376 (by decide) ?_
    exact kk (V 7) (V 7 12 0) (by unfold aBak; rw [if_pos c369]) _ _ _ _ hP hD hS dL_act_384

set_option maxHeartbeats 4000000 in
set_option maxRecDepth 100000 in
theorem ac_pas {p : Program} {e : Env} {s : State} {m : MethodId} {args : Array Value} {below : List Frame} {meth : Method} {cd : Code} {Q : State → Prop} {A : Nat → Prop} (l : Launch) (D : va_G) (cI cZ cS cJ : ClassId) (X : CallFix p m cd cL_act 6 s args wsL_act RL) (hK : va_K D vwCl (tyL cI cZ cS cJ) s) (hA : ∀ q, s.heap.size ≤ q → A q) (O k g a d : Nat → Nat) (w0 : Int32) (c : Nat → Nat → Nat) (f : Nat → Option Nat) (z : Nat) (V : Nat → Nat → Nat → Int32) (T : Nat → Int32) (n : Nat) (K G : Nat → Nat → Int32) (L : Nat → Int32) (v : Int32) (x y : Int32) (hz : z ≤ 6) (hf : ∀ i, i < 6 → f i = some (c i 0)) (hO : OK (V 0)) (hw0 : ¬ w0 = 0) (hO7 : OK (V 7)) (kk : ∀ (S9 : Nat → Nat → Int32) (r9 : Int32), aPas y (V 0) = (S9, r9) → ∀ (H : Heap) (locs : List Loc) (pc : Nat) (ls : Array Slot), va_P D vwCl (List.flatten [clP cI cZ cS O k g a d w0 (cN c z) (fN f z) (savZ z) (vput (savV V z) S9) T n K G L v]) H → va_D A (List.flatten [clP cI cZ cS O k g a d w0 (cN c z) (fN f z) (savZ z) (vput (savV V z) S9) T n K G L v]) → va_S A s.heap H locs → decode cL_act pc = .ok (.ireturn, 1) → W p l e RM_act s m args below meth cd H locs 0 0 Q (F0 m pc ls [.int r9])) (H : Heap) (locs : List Loc) (ls : Array Slot) (hP : va_P D vwCl (List.flatten [clP cI cZ cS O k g a d w0 c f z V T n K G L v]) H) (hD : va_D A (List.flatten [clP cI cZ cS O k g a d w0 c f z V T n K G L v])) (hS : va_S A s.heap H locs) (hl : lv_has ls 6 [(5, .int (nI (1 + upN (sh9 y 3) 99))), (4, .int (nI (upN y 7))), (3, .int (nI (upN y 8))), (2, .int y), (1, .int x), (0, .ref (O 0))]) : W p l e RM_act s m args below meth cd H locs 0 0 Q (F0 m 385 ls []) := by
  obtain ⟨hx, hb, hml, hown, hts⟩ := id X
  have k8 : upN y 8 < 8 := up_lt9 _ (by decide)
  have k7 : upN y 7 < 7 := up_lt9 _ (by decide)
  have u99 : upN (sh9 y 3) 99 < 99 := up_lt9 _ (by decide)
  refine lv_aload_n hx hb dL_act_385 rfl (lv_at hl 5 rfl) ?_
  refine lv_iconst (v := 1) hx hb dL_act_386 (by decide) ?_
  refine lv_iload_n hx hb dL_act_387 rfl (lv_at hl 3 rfl) ?_
  refine lv_iload_n hx hb dL_act_388 rfl (lv_at hl 3 rfl) ?_
  refine lv_bipush (v := 8) hx hb dL_act_389 (by decide) ?_
  refine lv_ishr hx hb dL_act_391 ?_
  refine lv_eqi (y := sh9 y 8) rfl ?_
  refine lv_iconst (v := 3) hx hb dL_act_392 (by decide) ?_
  refine lv_iand hx hb dL_act_393 ?_
  refine lv_if_ne (tgt := 402) hx hb dL_act_394 (by decide) (fun c394 => ?_) (fun c394 => ?_)
  · skip
    refine lv_iconst (v := 4) hx hb dL_act_402 (by decide) ?_
    refine kcallSJ (U := Unit) (As := [.int y, .int 4]) (rest := [.int 1, .ref (O 0)]) (Wr := [clP cI cZ cS O k g a d w0 c f z V T n K G L v]) (Wc := []) (Wo := fun _ => []) X (c_L_up l D (tyL cI cZ cS cJ) y 4 (by decide) (by decide)) (va_cwS 2 hts gL_act_L_up rfl rfl rfl (by decide +kernel) ⟨Nat.le_of_ble_eq_true rfl, Nat.le_of_ble_eq_true rfl⟩) hK (hP) (hD) hS hA rfl hl.1 rfl (Nat.le_of_ble_eq_true rfl) dL_act_403 ⟨Nat.le_of_ble_eq_true rfl, Nat.le_of_ble_eq_true rfl⟩ (fun u H locs hu hP hD hS => ?_)
    have hP : va_P D vwCl (List.flatten [clP cI cZ cS O k g a d w0 c f z V T n K G L v]) _ := hP
    have hD : va_D A (List.flatten [clP cI cZ cS O k g a d w0 c f z V T n K G L v]) := hD
    have hu403 : upN y 4 < 4 := up_lt9 _ (by decide)
    refine lv_iadd hx hb dL_act_406 ?_
    refine lv_eqi (y := nI (1 + (upN y 4))) (nI_add _ _) ?_
    refine kcallVJ (U := Unit) (As := [.int (nI (1 + (upN y 4)))]) (rest := []) (Wr := []) (Wc := [clP cI cZ cS O k g a d w0 c f z V T n K G L v]) (Wo := fun u => [clP cI cZ cS O k g a d w0 (cN c z) (fN f z) (savZ z) (vput (savV V z) (hrs (V 0) (1 + (upN y 4)))) T n K G L v]) X (k_pass l D cI cZ cS cJ O k g a d w0 c f z V T n K G L v (1 + (upN y 4)) hz hf hO (nI_nl (b := 1) (by omega) (by omega)) (nI_leq (b := 99) (by omega) (by decide)) (by omega)) (cwV 1 hts gL_act_X6_pass rfl rfl rfl (by decide +kernel) ⟨Nat.le_of_ble_eq_true rfl, Nat.le_of_ble_eq_true rfl⟩) hK hP hD hS hA 0 6 rfl rfl rfl hl.1 rfl (Nat.le_of_ble_eq_true rfl) dL_act_407 ⟨Nat.le_of_ble_eq_true rfl, Nat.le_of_ble_eq_true rfl⟩ (fun u H locs hu hP hD hS => ?_)
    have hP : va_P D vwCl (List.flatten [clP cI cZ cS O k g a d w0 (cN c z) (fN f z) (savZ z) (vput (savV V z) (hrs (V 0) (1 + (upN y 4)))) T n K G L v]) _ := hP
    have hD : va_D A (List.flatten [clP cI cZ cS O k g a d w0 (cN c z) (fN f z) (savZ z) (vput (savV V z) (hrs (V 0) (1 + (upN y 4)))) T n K G L v]) := hD
    refine lv_eqi (y := hrs (V 0) (1 + (upN y 4)) 12 4 - V 0 12 4) (rfl) ?_
    exact kk (hrs (V 0) (1 + (upN y 4))) (hrs (V 0) (1 + (upN y 4)) 12 4 - V 0 12 4) (by unfold aPas; rw [if_neg c394]; rfl) _ _ _ _ hP hD hS dL_act_410
  · skip
    refine lv_bipush (v := 25) hx hb dL_act_397 (by decide) ?_
    refine lv_goto (tgt := 403) hx hb dL_act_399 (by decide) ?_
    refine kcallSJ (U := Unit) (As := [.int y, .int 25]) (rest := [.int 1, .ref (O 0)]) (Wr := [clP cI cZ cS O k g a d w0 c f z V T n K G L v]) (Wc := []) (Wo := fun _ => []) X (c_L_up l D (tyL cI cZ cS cJ) y 25 (by decide) (by decide)) (va_cwS 2 hts gL_act_L_up rfl rfl rfl (by decide +kernel) ⟨Nat.le_of_ble_eq_true rfl, Nat.le_of_ble_eq_true rfl⟩) hK (hP) (hD) hS hA rfl hl.1 rfl (Nat.le_of_ble_eq_true rfl) dL_act_403 ⟨Nat.le_of_ble_eq_true rfl, Nat.le_of_ble_eq_true rfl⟩ (fun u H locs hu hP hD hS => ?_)
    have hP : va_P D vwCl (List.flatten [clP cI cZ cS O k g a d w0 c f z V T n K G L v]) _ := hP
    have hD : va_D A (List.flatten [clP cI cZ cS O k g a d w0 c f z V T n K G L v]) := hD
    have hu403 : upN y 25 < 25 := up_lt9 _ (by decide)
    refine lv_iadd hx hb dL_act_406 ?_
    refine lv_eqi (y := nI (1 + (upN y 25))) (nI_add _ _) ?_
    refine kcallVJ (U := Unit) (As := [.int (nI (1 + (upN y 25)))]) (rest := []) (Wr := []) (Wc := [clP cI cZ cS O k g a d w0 c f z V T n K G L v]) (Wo := fun u => [clP cI cZ cS O k g a d w0 (cN c z) (fN f z) (savZ z) (vput (savV V z) (hrs (V 0) (1 + (upN y 25)))) T n K G L v]) X (k_pass l D cI cZ cS cJ O k g a d w0 c f z V T n K G L v (1 + (upN y 25)) hz hf hO (nI_nl (b := 1) (by omega) (by omega)) (nI_leq (b := 99) (by omega) (by decide)) (by omega)) (cwV 1 hts gL_act_X6_pass rfl rfl rfl (by decide +kernel) ⟨Nat.le_of_ble_eq_true rfl, Nat.le_of_ble_eq_true rfl⟩) hK hP hD hS hA 0 6 rfl rfl rfl hl.1 rfl (Nat.le_of_ble_eq_true rfl) dL_act_407 ⟨Nat.le_of_ble_eq_true rfl, Nat.le_of_ble_eq_true rfl⟩ (fun u H locs hu hP hD hS => ?_)
    have hP : va_P D vwCl (List.flatten [clP cI cZ cS O k g a d w0 (cN c z) (fN f z) (savZ z) (vput (savV V z) (hrs (V 0) (1 + (upN y 25)))) T n K G L v]) _ := hP
    have hD : va_D A (List.flatten [clP cI cZ cS O k g a d w0 (cN c z) (fN f z) (savZ z) (vput (savV V z) (hrs (V 0) (1 + (upN y 25)))) T n K G L v]) := hD
    refine lv_eqi (y := hrs (V 0) (1 + (upN y 25)) 12 4 - V 0 12 4) (rfl) ?_
    exact kk (hrs (V 0) (1 + (upN y 25))) (hrs (V 0) (1 + (upN y 25)) 12 4 - V 0 12 4) (by unfold aPas; rw [if_pos c394]; rfl) _ _ _ _ hP hD hS dL_act_410

set_option maxHeartbeats 4000000 in
set_option maxRecDepth 100000 in
theorem c_L_act (l : Launch) (D : va_G) (cI cZ cS cJ : ClassId) (O k g a d : Nat → Nat) (w0 : Int32) (c : Nat → Nat → Nat) (f : Nat → Option Nat) (z : Nat) (V : Nat → Nat → Nat → Int32) (T : Nat → Int32) (n : Nat) (K G : Nat → Nat → Int32) (L : Nat → Int32) (v : Int32) (x y : Int32) (q : Nat) (hq : upN x 20 = q) (hz : z ≤ 6) (hf : ∀ i, i < 6 → f i = some (c i 0)) (hO : OK (V 0)) (hw0 : ¬ w0 = 0) (hO7 : OK (V 7)) : CE (U := Unit) l yL_act wsL_act RM_act D (tyL cI cZ cS cJ) [.ref (O 0), .int x, .int y] (List.flatten [clP cI cZ cS O k g a d w0 c f z V T n K G L v]) (fun _ => True) (fun _ => some (.int (acP q y (V 0) (V 7)).2)) (fun _ => List.flatten [clP cI cZ cS O k g a d w0 (cN c z) (fN f z) (savZ z) (vput (savV V z) ((acP q y (V 0) (V 7)).1)) T n K G L v]) 0 0 := by
  refine CE_int (cc := cL_act) (maxL := 6) (rt := .int) (by decide) rfl (Nat.le_of_ble_eq_true rfl) (fun _ _ => rfl) ?_
  intro p e s m below meth cd A ls Q X hK hP hD hS hA hl hend
  have X : CallFix p m cd cL_act 6 s (([.ref (O 0), .int x, .int y] : List Value).toArray) wsL_act RL := X
  obtain ⟨hx, hb, hml, hown, hts⟩ := id X
  have hl : lv_has ls 6 [(0, .ref (O 0)), (1, .int x), (2, .int y)] := hl
  refine lv_iload_n hx hb dL_act_0 rfl (lv_at hl 2 rfl) ?_
  refine lv_bipush (v := 8) hx hb dL_act_1 (by decide) ?_
  refine kcallSJ (U := Unit) (As := [.int y, .int 8]) (rest := []) (Wr := [clP cI cZ cS O k g a d w0 c f z V T n K G L v]) (Wc := []) (Wo := fun _ => []) X (c_L_up l D (tyL cI cZ cS cJ) y 8 (by decide) (by decide)) (va_cwS 2 hts gL_act_L_up rfl rfl rfl (by decide +kernel) ⟨Nat.le_of_ble_eq_true rfl, Nat.le_of_ble_eq_true rfl⟩) hK (hP) (hD) hS hA rfl hl.1 rfl (Nat.le_of_ble_eq_true rfl) dL_act_3 ⟨Nat.le_of_ble_eq_true rfl, Nat.le_of_ble_eq_true rfl⟩ (fun u H locs hu hP hD hS => ?_)
  have hP : va_P D vwCl (List.flatten [clP cI cZ cS O k g a d w0 c f z V T n K G L v]) _ := hP
  have hD : va_D A (List.flatten [clP cI cZ cS O k g a d w0 c f z V T n K G L v]) := hD
  have hu3 : upN y 8 < 8 := up_lt9 _ (by decide)
  refine lv_istore_n (lv' := [(3, .int (nI (upN y 8))), (0, .ref (O 0)), (1, .int x), (2, .int y)]) hx hb dL_act_6 rfl hl (by decide) rfl (fun ls hl => ?_)
  refine lv_iload_n hx hb dL_act_7 rfl (lv_at hl 3 rfl) ?_
  refine lv_bipush (v := 7) hx hb dL_act_8 (by decide) ?_
  refine kcallSJ (U := Unit) (As := [.int y, .int 7]) (rest := []) (Wr := [clP cI cZ cS O k g a d w0 c f z V T n K G L v]) (Wc := []) (Wo := fun _ => []) X (c_L_up l D (tyL cI cZ cS cJ) y 7 (by decide) (by decide)) (va_cwS 2 hts gL_act_L_up rfl rfl rfl (by decide +kernel) ⟨Nat.le_of_ble_eq_true rfl, Nat.le_of_ble_eq_true rfl⟩) hK (hP) (hD) hS hA rfl hl.1 rfl (Nat.le_of_ble_eq_true rfl) dL_act_10 ⟨Nat.le_of_ble_eq_true rfl, Nat.le_of_ble_eq_true rfl⟩ (fun u H locs hu hP hD hS => ?_)
  have hP : va_P D vwCl (List.flatten [clP cI cZ cS O k g a d w0 c f z V T n K G L v]) _ := hP
  have hD : va_D A (List.flatten [clP cI cZ cS O k g a d w0 c f z V T n K G L v]) := hD
  have hu10 : upN y 7 < 7 := up_lt9 _ (by decide)
  refine lv_istore (lv' := [(4, .int (nI (upN y 7))), (3, .int (nI (upN y 8))), (0, .ref (O 0)), (1, .int x), (2, .int y)]) hx hb dL_act_13 hl (by decide) rfl (fun ls hl => ?_)
  refine lv_iconst (v := 1) hx hb dL_act_15 (by decide) ?_
  refine lv_iload_n hx hb dL_act_16 rfl (lv_at hl 4 rfl) ?_
  refine lv_iconst (v := 3) hx hb dL_act_17 (by decide) ?_
  refine lv_ishr hx hb dL_act_18 ?_
  refine lv_eqi (y := sh9 y 3) rfl ?_
  refine lv_bipush (v := 99) hx hb dL_act_19 (by decide) ?_
  refine kcallSJ (U := Unit) (As := [.int (sh9 y 3), .int 99]) (rest := [.int 1]) (Wr := [clP cI cZ cS O k g a d w0 c f z V T n K G L v]) (Wc := []) (Wo := fun _ => []) X (c_L_up l D (tyL cI cZ cS cJ) (sh9 y 3) 99 (by decide) (by decide)) (va_cwS 2 hts gL_act_L_up rfl rfl rfl (by decide +kernel) ⟨Nat.le_of_ble_eq_true rfl, Nat.le_of_ble_eq_true rfl⟩) hK (hP) (hD) hS hA rfl hl.1 rfl (Nat.le_of_ble_eq_true rfl) dL_act_21 ⟨Nat.le_of_ble_eq_true rfl, Nat.le_of_ble_eq_true rfl⟩ (fun u H locs hu hP hD hS => ?_)
  have hP : va_P D vwCl (List.flatten [clP cI cZ cS O k g a d w0 c f z V T n K G L v]) _ := hP
  have hD : va_D A (List.flatten [clP cI cZ cS O k g a d w0 c f z V T n K G L v]) := hD
  have hu21 : upN (sh9 y 3) 99 < 99 := up_lt9 _ (by decide)
  refine lv_iadd hx hb dL_act_24 ?_
  refine lv_eqi (y := nI (1 + (upN (sh9 y 3) 99))) (nI_add _ _) ?_
  refine lv_istore (lv' := [(5, .int (nI (1 + (upN (sh9 y 3) 99)))), (4, .int (nI (upN y 7))), (3, .int (nI (upN y 8))), (0, .ref (O 0)), (1, .int x), (2, .int y)]) hx hb dL_act_25 hl (by decide) rfl (fun ls hl => ?_)
  refine lv_iload_n hx hb dL_act_27 rfl (lv_at hl 4 rfl) ?_
  refine lv_bipush (v := 20) hx hb dL_act_28 (by decide) ?_
  refine kcallSJ (U := Unit) (As := [.int x, .int 20]) (rest := []) (Wr := [clP cI cZ cS O k g a d w0 c f z V T n K G L v]) (Wc := []) (Wo := fun _ => []) X (c_L_up l D (tyL cI cZ cS cJ) x 20 (by decide) (by decide)) (va_cwS 2 hts gL_act_L_up rfl rfl rfl (by decide +kernel) ⟨Nat.le_of_ble_eq_true rfl, Nat.le_of_ble_eq_true rfl⟩) hK (hP) (hD) hS hA rfl hl.1 rfl (Nat.le_of_ble_eq_true rfl) dL_act_30 ⟨Nat.le_of_ble_eq_true rfl, Nat.le_of_ble_eq_true rfl⟩ (fun u H locs hu hP hD hS => ?_)
  have hP : va_P D vwCl (List.flatten [clP cI cZ cS O k g a d w0 c f z V T n K G L v]) _ := hP
  have hD : va_D A (List.flatten [clP cI cZ cS O k g a d w0 c f z V T n K G L v]) := hD
  have hu30 : upN x 20 < 20 := up_lt9 _ (by decide)
  refine lv_eqi (y := nI q) (by rw [hq]) ?_
  have hq20 : q < 20 := by rw [← hq]; exact up_lt9 _ (by decide)
  clear hu30
  clear hq
  rcases (show q = 0 ∨ q = 1 ∨ q = 2 ∨ q = 3 ∨ q = 4 ∨ q = 5 ∨ q = 6 ∨ q = 7 ∨ q = 8 ∨ q = 9 ∨ q = 10 ∨ q = 11 ∨ q = 12 ∨ q = 13 ∨ q = 14 ∨ q = 15 ∨ q = 16 ∨ q = 17 ∨ q = 18 ∨ q = 19 by omega) with rfl | rfl | rfl | rfl | rfl | rfl | rfl | rfl | rfl | rfl | rfl | rfl | rfl | rfl | rfl | rfl | rfl | rfl | rfl | rfl
  · refine lv_tableIn (tgt := 112) hx hb dL_act_33 (by decide) (by decide) rfl (by decide) ?_
    refine ac_fil l D cI cZ cS cJ X hK hA O k g a d w0 c f z V T n K G L v x y hz hf hO hw0 hO7 (fun S9 r9 e9 H locs pc ls hP hD hS hdg => ?_) _ _ _ hP hD hS (lv_sub hl [0, 1, 2, 5, 4, 3] rfl)
    have e : acP 0 y (V 0) (V 7) = (S9, r9) := e9
    exact hend () r9 _ _ _ _ trivial (by rw [e]) (by rw [e]; exact hP) (by rw [e]; exact hD) hS hdg
  · refine lv_tableIn (tgt := 112) hx hb dL_act_33 (by decide) (by decide) rfl (by decide) ?_
    refine ac_fil l D cI cZ cS cJ X hK hA O k g a d w0 c f z V T n K G L v x y hz hf hO hw0 hO7 (fun S9 r9 e9 H locs pc ls hP hD hS hdg => ?_) _ _ _ hP hD hS (lv_sub hl [0, 1, 2, 5, 4, 3] rfl)
    have e : acP 1 y (V 0) (V 7) = (S9, r9) := e9
    exact hend () r9 _ _ _ _ trivial (by rw [e]) (by rw [e]; exact hP) (by rw [e]; exact hD) hS hdg
  · refine lv_tableIn (tgt := 152) hx hb dL_act_33 (by decide) (by decide) rfl (by decide) ?_
    refine ac_ven l D cI cZ cS cJ X hK hA O k g a d w0 c f z V T n K G L v x y hz hf hO hw0 hO7 (fun S9 r9 e9 H locs pc ls hP hD hS hdg => ?_) _ _ _ hP hD hS (lv_sub hl [0, 1, 2, 5, 4, 3] rfl)
    have e : acP 2 y (V 0) (V 7) = (S9, r9) := e9
    exact hend () r9 _ _ _ _ trivial (by rw [e]) (by rw [e]; exact hP) (by rw [e]; exact hD) hS hdg
  · refine lv_tableIn (tgt := 152) hx hb dL_act_33 (by decide) (by decide) rfl (by decide) ?_
    refine ac_ven l D cI cZ cS cJ X hK hA O k g a d w0 c f z V T n K G L v x y hz hf hO hw0 hO7 (fun S9 r9 e9 H locs pc ls hP hD hS hdg => ?_) _ _ _ hP hD hS (lv_sub hl [0, 1, 2, 5, 4, 3] rfl)
    have e : acP 3 y (V 0) (V 7) = (S9, r9) := e9
    exact hend () r9 _ _ _ _ trivial (by rw [e]) (by rw [e]; exact hP) (by rw [e]; exact hD) hS hdg
  · refine lv_tableIn (tgt := 179) hx hb dL_act_33 (by decide) (by decide) rfl (by decide) ?_
    refine ac_dro l D cI cZ cS cJ X hK hA O k g a d w0 c f z V T n K G L v x y hz hf hO hw0 hO7 (fun S9 r9 e9 H locs pc ls hP hD hS hdg => ?_) _ _ _ hP hD hS (lv_sub hl [0, 1, 2, 5, 4, 3] rfl)
    have e : acP 4 y (V 0) (V 7) = (S9, r9) := e9
    exact hend () r9 _ _ _ _ trivial (by rw [e]) (by rw [e]; exact hP) (by rw [e]; exact hD) hS hdg
  · refine lv_tableIn (tgt := 179) hx hb dL_act_33 (by decide) (by decide) rfl (by decide) ?_
    refine ac_dro l D cI cZ cS cJ X hK hA O k g a d w0 c f z V T n K G L v x y hz hf hO hw0 hO7 (fun S9 r9 e9 H locs pc ls hP hD hS hdg => ?_) _ _ _ hP hD hS (lv_sub hl [0, 1, 2, 5, 4, 3] rfl)
    have e : acP 5 y (V 0) (V 7) = (S9, r9) := e9
    exact hend () r9 _ _ _ _ trivial (by rw [e]) (by rw [e]; exact hP) (by rw [e]; exact hD) hS hdg
  · refine lv_tableIn (tgt := 179) hx hb dL_act_33 (by decide) (by decide) rfl (by decide) ?_
    refine ac_dro l D cI cZ cS cJ X hK hA O k g a d w0 c f z V T n K G L v x y hz hf hO hw0 hO7 (fun S9 r9 e9 H locs pc ls hP hD hS hdg => ?_) _ _ _ hP hD hS (lv_sub hl [0, 1, 2, 5, 4, 3] rfl)
    have e : acP 6 y (V 0) (V 7) = (S9, r9) := e9
    exact hend () r9 _ _ _ _ trivial (by rw [e]) (by rw [e]; exact hP) (by rw [e]; exact hD) hS hdg
  · refine lv_tableIn (tgt := 202) hx hb dL_act_33 (by decide) (by decide) rfl (by decide) ?_
    refine ac_put l D cI cZ cS cJ X hK hA O k g a d w0 c f z V T n K G L v x y hz hf hO hw0 hO7 (fun S9 r9 e9 H locs pc ls hP hD hS hdg => ?_) _ _ _ hP hD hS (lv_sub hl [0, 1, 2, 5, 4, 3] rfl)
    have e : acP 7 y (V 0) (V 7) = (S9, r9) := e9
    exact hend () r9 _ _ _ _ trivial (by rw [e]) (by rw [e]; exact hP) (by rw [e]; exact hD) hS hdg
  · refine lv_tableIn (tgt := 233) hx hb dL_act_33 (by decide) (by decide) rfl (by decide) ?_
    refine ac_lea l D cI cZ cS cJ X hK hA O k g a d w0 c f z V T n K G L v x y hz hf hO hw0 hO7 (fun S9 r9 e9 H locs pc ls hP hD hS hdg => ?_) _ _ _ hP hD hS (lv_sub hl [0, 1, 2, 5, 4, 3] rfl)
    have e : acP 8 y (V 0) (V 7) = (S9, r9) := e9
    exact hend () r9 _ _ _ _ trivial (by rw [e]) (by rw [e]; exact hP) (by rw [e]; exact hD) hS hdg
  · refine lv_tableIn (tgt := 247) hx hb dL_act_33 (by decide) (by decide) rfl (by decide) ?_
    refine ac_tun l D cI cZ cS cJ X hK hA O k g a d w0 c f z V T n K G L v x y hz hf hO hw0 hO7 (fun S9 r9 e9 H locs pc ls hP hD hS hdg => ?_) _ _ _ hP hD hS (lv_sub hl [0, 1, 2, 5, 4, 3] rfl)
    have e : acP 9 y (V 0) (V 7) = (S9, r9) := e9
    exact hend () r9 _ _ _ _ trivial (by rw [e]) (by rw [e]; exact hP) (by rw [e]; exact hD) hS hdg
  · refine lv_tableIn (tgt := 264) hx hb dL_act_33 (by decide) (by decide) rfl (by decide) ?_
    refine ac_not l D cI cZ cS cJ X hK hA O k g a d w0 c f z V T n K G L v x y hz hf hO hw0 hO7 (fun S9 r9 e9 H locs pc ls hP hD hS hdg => ?_) _ _ _ hP hD hS (lv_sub hl [0, 1, 2, 5, 4, 3] rfl)
    have e : acP 10 y (V 0) (V 7) = (S9, r9) := e9
    exact hend () r9 _ _ _ _ trivial (by rw [e]) (by rw [e]; exact hP) (by rw [e]; exact hD) hS hdg
  · refine lv_tableIn (tgt := 264) hx hb dL_act_33 (by decide) (by decide) rfl (by decide) ?_
    refine ac_not l D cI cZ cS cJ X hK hA O k g a d w0 c f z V T n K G L v x y hz hf hO hw0 hO7 (fun S9 r9 e9 H locs pc ls hP hD hS hdg => ?_) _ _ _ hP hD hS (lv_sub hl [0, 1, 2, 5, 4, 3] rfl)
    have e : acP 11 y (V 0) (V 7) = (S9, r9) := e9
    exact hend () r9 _ _ _ _ trivial (by rw [e]) (by rw [e]; exact hP) (by rw [e]; exact hD) hS hdg
  · refine lv_tableIn (tgt := 270) hx hb dL_act_33 (by decide) (by decide) rfl (by decide) ?_
    refine ac_rib l D cI cZ cS cJ X hK hA O k g a d w0 c f z V T n K G L v x y hz hf hO hw0 hO7 (fun S9 r9 e9 H locs pc ls hP hD hS hdg => ?_) _ _ _ hP hD hS (lv_sub hl [0, 1, 2, 5, 4, 3] rfl)
    have e : acP 12 y (V 0) (V 7) = (S9, r9) := e9
    exact hend () r9 _ _ _ _ trivial (by rw [e]) (by rw [e]; exact hP) (by rw [e]; exact hD) hS hdg
  · refine lv_tableIn (tgt := 270) hx hb dL_act_33 (by decide) (by decide) rfl (by decide) ?_
    refine ac_rib l D cI cZ cS cJ X hK hA O k g a d w0 c f z V T n K G L v x y hz hf hO hw0 hO7 (fun S9 r9 e9 H locs pc ls hP hD hS hdg => ?_) _ _ _ hP hD hS (lv_sub hl [0, 1, 2, 5, 4, 3] rfl)
    have e : acP 13 y (V 0) (V 7) = (S9, r9) := e9
    exact hend () r9 _ _ _ _ trivial (by rw [e]) (by rw [e]; exact hP) (by rw [e]; exact hD) hS hdg
  · refine lv_tableIn (tgt := 336) hx hb dL_act_33 (by decide) (by decide) rfl (by decide) ?_
    refine ac_bea l D cI cZ cS cJ X hK hA O k g a d w0 c f z V T n K G L v x y hz hf hO hw0 hO7 (fun S9 r9 e9 H locs pc ls hP hD hS hdg => ?_) _ _ _ hP hD hS (lv_sub hl [0, 1, 2, 5, 4, 3] rfl)
    have e : acP 14 y (V 0) (V 7) = (S9, r9) := e9
    exact hend () r9 _ _ _ _ trivial (by rw [e]) (by rw [e]; exact hP) (by rw [e]; exact hD) hS hdg
  · refine lv_tableIn (tgt := 366) hx hb dL_act_33 (by decide) (by decide) rfl (by decide) ?_
    refine ac_bak l D cI cZ cS cJ X hK hA O k g a d w0 c f z V T n K G L v x y hz hf hO hw0 hO7 (fun S9 r9 e9 H locs pc ls hP hD hS hdg => ?_) _ _ _ hP hD hS (lv_sub hl [0, 1, 2, 5, 4, 3] rfl)
    have e : acP 15 y (V 0) (V 7) = (S9, r9) := e9
    exact hend () r9 _ _ _ _ trivial (by rw [e]) (by rw [e]; exact hP) (by rw [e]; exact hD) hS hdg
  · refine lv_tableOut (tgt := 385) hx hb dL_act_33 (by decide) (by decide) ?_
    refine ac_pas l D cI cZ cS cJ X hK hA O k g a d w0 c f z V T n K G L v x y hz hf hO hw0 hO7 (fun S9 r9 e9 H locs pc ls hP hD hS hdg => ?_) _ _ _ hP hD hS (lv_sub hl [0, 1, 2, 5, 4, 3] rfl)
    have e : acP 16 y (V 0) (V 7) = (S9, r9) := e9
    exact hend () r9 _ _ _ _ trivial (by rw [e]) (by rw [e]; exact hP) (by rw [e]; exact hD) hS hdg
  · refine lv_tableOut (tgt := 385) hx hb dL_act_33 (by decide) (by decide) ?_
    refine ac_pas l D cI cZ cS cJ X hK hA O k g a d w0 c f z V T n K G L v x y hz hf hO hw0 hO7 (fun S9 r9 e9 H locs pc ls hP hD hS hdg => ?_) _ _ _ hP hD hS (lv_sub hl [0, 1, 2, 5, 4, 3] rfl)
    have e : acP 17 y (V 0) (V 7) = (S9, r9) := e9
    exact hend () r9 _ _ _ _ trivial (by rw [e]) (by rw [e]; exact hP) (by rw [e]; exact hD) hS hdg
  · refine lv_tableOut (tgt := 385) hx hb dL_act_33 (by decide) (by decide) ?_
    refine ac_pas l D cI cZ cS cJ X hK hA O k g a d w0 c f z V T n K G L v x y hz hf hO hw0 hO7 (fun S9 r9 e9 H locs pc ls hP hD hS hdg => ?_) _ _ _ hP hD hS (lv_sub hl [0, 1, 2, 5, 4, 3] rfl)
    have e : acP 18 y (V 0) (V 7) = (S9, r9) := e9
    exact hend () r9 _ _ _ _ trivial (by rw [e]) (by rw [e]; exact hP) (by rw [e]; exact hD) hS hdg
  · refine lv_tableOut (tgt := 385) hx hb dL_act_33 (by decide) (by decide) ?_
    refine ac_pas l D cI cZ cS cJ X hK hA O k g a d w0 c f z V T n K G L v x y hz hf hO hw0 hO7 (fun S9 r9 e9 H locs pc ls hP hD hS hdg => ?_) _ _ _ hP hD hS (lv_sub hl [0, 1, 2, 5, 4, 3] rfl)
    have e : acP 19 y (V 0) (V 7) = (S9, r9) := e9
    exact hend () r9 _ _ _ _ trivial (by rw [e]) (by rw [e]; exact hP) (by rw [e]; exact hD) hS hdg

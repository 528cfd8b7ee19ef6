/-! the law's helpers, whole -/
def LkJ (K k : Int32) (rok r : Int64) : Prop := k = K ∧ (K = 0 → r = rok)
theorem LkJ_ok {K k : Int32} {rok r : Int64} (hK : K = 0) (hk : k = 0) (hr : r = rok) : LkJ K k rok r := ⟨by rw [hK, hk], fun _ => hr⟩
theorem LkJ_bad {K k : Int32} {rok r : Int64} (hK : K = k) (hk : ¬ k = 0) : LkJ K k rok r := ⟨hK.symm, fun h => absurd (hK.symm.trans h) hk⟩
theorem z9_1 : ¬ (1 : Int32) = 0 := by decide
theorem z9_2 : ¬ (2 : Int32) = 0 := by decide
theorem z9_3 : ¬ (3 : Int32) = 0 := by decide
theorem cut_eq {S : Nat → Nat → Int32} {r : Nat} (h6 : S 6 = ht S) : sm (ht (cutS S r)) 8 - sm (S 6) 8 = hsm (mended (cutS S r)) - hsm S := by
  unfold hsm
  rw [← mend_6, ← h6]
  rfl
theorem nat_of {x : Int32} (h : ¬ x < 0) : ∃ r : Nat, r < 2147483648 ∧ x = nI r := by
  obtain ⟨r, h1, h2⟩ := nI_of2 (M := 2147483647) (hM := (by decide : (2147483647 : Int32).toInt = (2147483647 : Nat))) h (Int32.le_iff_toInt_le.mpr (by
    have h1 := Int32.toInt_lt x
    have h2 : (2147483647 : Int32).toInt = 2147483647 := by decide
    omega))
  exact ⟨r, by omega, h2⟩

set_option maxHeartbeats 4000000 in
theorem h_fill (l : Launch) (D : va_G) (cI cZ cS cJ : ClassId) (hl9 : l.stackTraces = false) (O k g a d : Nat → Nat) (w0 : Int32) (c : Nat → Nat → Nat) (f : Nat → Option Nat) (z : Nat) (V : Nat → Nat → Nat → Int32) (T : Nat → Int32) (n : Nat) (K G : Nat → Nat → Int32) (L : Nat → Int32) (v : Int32) (o : Nat) (ww : Int64) (x : Int32) (y : Int32) (hz6 : z ≤ 6) (hf : ∀ i, i < 6 → f i = some (c i 0)) (hO : OK (V 0)) : CH (U := Int32 × (Nat → Nat → Nat) × (Nat → Option Nat) × Nat × (Nat → Nat → Nat → Int32) × Int64) l yL_fill wsL_fill ({ frames := 8, cells := 1, slots := 6, locals := 133 }) D (tyL cI cZ cS cJ) [.ref (O 0), .int x, .int y, .ref o] (List.flatten [arJ cJ o ww, clP cI cZ cS O k g a d w0 c f z V T n K G L v]) (fun u => Res (k3 (isB x) (inR y 1 99) (wn0 (V 0) x.toNatClampNeg y = 0)) u.1 (c, f, z, V) (cN c z, fN f z, savZ z, vput (savV V z) (mended (filS (V 0) x.toNatClampNeg y))) (u.2.1, u.2.2.1, u.2.2.2.1, u.2.2.2.2.1) (V 0 0 x.toNatClampNeg + y).toInt64 u.2.2.2.2.2) (fun u => some (.int u.1)) (fun u => List.flatten [arJ cJ o u.2.2.2.2.2, clP cI cZ cS O k g a d w0 u.2.1 u.2.2.1 u.2.2.2.1 u.2.2.2.2.1 T n K G L v]) 1 6 := by
  by_cases q1 : isB x
  · skip
    obtain ⟨b, hb8, rfl⟩ := bal_of q1
    have e0 : (nI b).toNatClampNeg = b := nI_clamp (by omega)
    by_cases q2 : inR y 1 99
    · skip
      by_cases q3 : wn0 (V 0) b y = 0
      · skip
        exact CH_imp (h_fillN l D cI cZ cS cJ hl9 O k g a d w0 c f z V T n K G L v o ww b y hz6 hf hO hb8 q2.1 (Int32.not_lt.mp q2.2) q3) (fun _ _ => ⟨(0, cN c z, fN f z, savZ z, vput (savV V z) (mended (filS (V 0) b y)), (((V 0) 0) b + y).toInt64), by show Res _ _ _ _ _ _ _ ; rw [e0]; exact Res_ok (k3_0 q1 q2 q3) rfl rfl rfl, rfl, rfl⟩)
      · skip
        exact CH_imp (h_fillTS l D cI cZ cS cJ hl9 O k g a d w0 c f z V T n K G L v o ww b y hb8 q2.1 (Int32.not_lt.mp q2.2) q3) (fun _ _ => ⟨(3, c, f, z, V, ww), by show Res _ _ _ _ _ _ _ ; exact Res_bad (by first | exact k3_3 q1 q2 q3 | (rw [e0]; exact k3_3 q1 q2 q3)) z9_3 rfl, rfl, rfl⟩)
    · skip
      exact CH_imp (h_fillTA l D cI cZ cS cJ hl9 O k g a d w0 c f z V T n K G L v o ww b y hb8 q2) (fun _ _ => ⟨(2, c, f, z, V, ww), by show Res _ _ _ _ _ _ _ ; exact Res_bad (by first | exact k3_2 q1 q2 | (rw [e0]; exact k3_2 q1 q2)) z9_2 rfl, rfl, rfl⟩)
  · skip
    exact CH_imp (h_fillTI l D cI cZ cS cJ hl9 O k g a d w0 c f z V T n K G L v o ww x y q1) (fun _ _ => ⟨(1, c, f, z, V, ww), by show Res _ _ _ _ _ _ _ ; exact Res_bad (k3_1 q1) z9_1 rfl, rfl, rfl⟩)

set_option maxHeartbeats 4000000 in
theorem h_vent (l : Launch) (D : va_G) (cI cZ cS cJ : ClassId) (hl9 : l.stackTraces = false) (O k g a d : Nat → Nat) (w0 : Int32) (c : Nat → Nat → Nat) (f : Nat → Option Nat) (z : Nat) (V : Nat → Nat → Nat → Int32) (T : Nat → Int32) (n : Nat) (K G : Nat → Nat → Int32) (L : Nat → Int32) (v : Int32) (o : Nat) (ww : Int64) (x : Int32) (y : Int32) (hz6 : z ≤ 6) (hf : ∀ i, i < 6 → f i = some (c i 0)) (hO : OK (V 0)) : CH (U := Int32 × (Nat → Nat → Nat) × (Nat → Option Nat) × Nat × (Nat → Nat → Nat → Int32) × Int64) l yL_vent wsL_vent ({ frames := 8, cells := 1, slots := 6, locals := 133 }) D (tyL cI cZ cS cJ) [.ref (O 0), .int x, .int y, .ref o] (List.flatten [arJ cJ o ww, clP cI cZ cS O k g a d w0 c f z V T n K G L v]) (fun u => Res (k3 (isB x) (inR y 1 99) (wn1 (V 0) x.toNatClampNeg y = 0)) u.1 (c, f, z, V) (cN c z, fN f z, savZ z, vput (savV V z) (mended (venS (V 0) x.toNatClampNeg y))) (u.2.1, u.2.2.1, u.2.2.2.1, u.2.2.2.2.1) (ht (venS (V 0) x.toNatClampNeg y) x.toNatClampNeg).toInt64 u.2.2.2.2.2) (fun u => some (.int u.1)) (fun u => List.flatten [arJ cJ o u.2.2.2.2.2, clP cI cZ cS O k g a d w0 u.2.1 u.2.2.1 u.2.2.2.1 u.2.2.2.2.1 T n K G L v]) 1 6 := by
  by_cases q1 : isB x
  · skip
    obtain ⟨b, hb8, rfl⟩ := bal_of q1
    have e0 : (nI b).toNatClampNeg = b := nI_clamp (by omega)
    by_cases q2 : inR y 1 99
    · skip
      by_cases q3 : wn1 (V 0) b y = 0
      · skip
        exact CH_imp (h_ventN l D cI cZ cS cJ hl9 O k g a d w0 c f z V T n K G L v o ww b y hz6 hf hO hb8 q2.1 (Int32.not_lt.mp q2.2) q3) (fun _ _ => ⟨(0, cN c z, fN f z, savZ z, vput (savV V z) (mended (venS (V 0) b y)), (ht (venS (V 0) b y) b).toInt64), by show Res _ _ _ _ _ _ _ ; rw [e0]; exact Res_ok (k3_0 q1 q2 q3) rfl rfl rfl, rfl, rfl⟩)
      · skip
        exact CH_imp (h_ventTS l D cI cZ cS cJ hl9 O k g a d w0 c f z V T n K G L v o ww b y hb8 q2.1 (Int32.not_lt.mp q2.2) q3) (fun _ _ => ⟨(3, c, f, z, V, ww), by show Res _ _ _ _ _ _ _ ; exact Res_bad (by first | exact k3_3 q1 q2 q3 | (rw [e0]; exact k3_3 q1 q2 q3)) z9_3 rfl, rfl, rfl⟩)
    · skip
      exact CH_imp (h_ventTA l D cI cZ cS cJ hl9 O k g a d w0 c f z V T n K G L v o ww b y hb8 q2) (fun _ _ => ⟨(2, c, f, z, V, ww), by show Res _ _ _ _ _ _ _ ; exact Res_bad (by first | exact k3_2 q1 q2 | (rw [e0]; exact k3_2 q1 q2)) z9_2 rfl, rfl, rfl⟩)
  · skip
    exact CH_imp (h_ventTI l D cI cZ cS cJ hl9 O k g a d w0 c f z V T n K G L v o ww x y q1) (fun _ _ => ⟨(1, c, f, z, V, ww), by show Res _ _ _ _ _ _ _ ; exact Res_bad (k3_1 q1) z9_1 rfl, rfl, rfl⟩)

set_option maxHeartbeats 4000000 in
theorem h_drop (l : Launch) (D : va_G) (cI cZ cS cJ : ClassId) (hl9 : l.stackTraces = false) (O k g a d : Nat → Nat) (w0 : Int32) (c : Nat → Nat → Nat) (f : Nat → Option Nat) (z : Nat) (V : Nat → Nat → Nat → Int32) (T : Nat → Int32) (n : Nat) (K G : Nat → Nat → Int32) (L : Nat → Int32) (v : Int32) (o : Nat) (ww : Int64) (x : Int32) (hz6 : z ≤ 6) (hf : ∀ i, i < 6 → f i = some (c i 0)) (hO : OK (V 0)) : CH (U := Int32 × (Nat → Nat → Nat) × (Nat → Option Nat) × Nat × (Nat → Nat → Nat → Int32) × Int64) l yL_drop wsL_drop ({ frames := 8, cells := 1, slots := 6, locals := 132 }) D (tyL cI cZ cS cJ) [.ref (O 0), .int x, .ref o] (List.flatten [arJ cJ o ww, clP cI cZ cS O k g a d w0 c f z V T n K G L v]) (fun u => Res (k2 (isB x) (wn2 (V 0) x.toNatClampNeg = 0)) u.1 (c, f, z, V) (cN c z, fN f z, savZ z, vput (savV V z) (mended (droS (V 0) x.toNatClampNeg))) (u.2.1, u.2.2.1, u.2.2.2.1, u.2.2.2.2.1) (ht (droS (V 0) x.toNatClampNeg) x.toNatClampNeg).toInt64 u.2.2.2.2.2) (fun u => some (.int u.1)) (fun u => List.flatten [arJ cJ o u.2.2.2.2.2, clP cI cZ cS O k g a d w0 u.2.1 u.2.2.1 u.2.2.2.1 u.2.2.2.2.1 T n K G L v]) 1 6 := by
  by_cases q1 : isB x
  · skip
    obtain ⟨b, hb8, rfl⟩ := bal_of q1
    have e0 : (nI b).toNatClampNeg = b := nI_clamp (by omega)
    by_cases q2 : wn2 (V 0) b = 0
    · skip
      exact CH_imp (h_dropN l D cI cZ cS cJ hl9 O k g a d w0 c f z V T n K G L v o ww b hz6 hf hO hb8 q2) (fun _ _ => ⟨(0, cN c z, fN f z, savZ z, vput (savV V z) (mended (droS (V 0) b)), (ht (droS (V 0) b) b).toInt64), by show Res _ _ _ _ _ _ _ ; rw [e0]; exact Res_ok (k2_0 q1 q2) rfl rfl rfl, rfl, rfl⟩)
    · skip
      exact CH_imp (h_dropTS l D cI cZ cS cJ hl9 O k g a d w0 c f z V T n K G L v o ww b hb8 q2) (fun _ _ => ⟨(2, c, f, z, V, ww), by show Res _ _ _ _ _ _ _ ; exact Res_bad (by first | exact k2_2 q1 q2 | (rw [e0]; exact k2_2 q1 q2)) z9_2 rfl, rfl, rfl⟩)
  · skip
    exact CH_imp (h_dropTI l D cI cZ cS cJ hl9 O k g a d w0 c f z V T n K G L v o ww x q1) (fun _ _ => ⟨(1, c, f, z, V, ww), by show Res _ _ _ _ _ _ _ ; exact Res_bad (k2_1 q1) z9_1 rfl, rfl, rfl⟩)

set_option maxHeartbeats 4000000 in
theorem h_put (l : Launch) (D : va_G) (cI cZ cS cJ : ClassId) (hl9 : l.stackTraces = false) (O k g a d : Nat → Nat) (w0 : Int32) (c : Nat → Nat → Nat) (f : Nat → Option Nat) (z : Nat) (V : Nat → Nat → Nat → Int32) (T : Nat → Int32) (n : Nat) (K G : Nat → Nat → Int32) (L : Nat → Int32) (v : Int32) (o : Nat) (ww : Int64) (x : Int32) (hz6 : z ≤ 6) (hf : ∀ i, i < 6 → f i = some (c i 0)) (hO : OK (V 0)) : CH (U := Int32 × (Nat → Nat → Nat) × (Nat → Option Nat) × Nat × (Nat → Nat → Nat → Int32) × Int64) l yL_put wsL_put ({ frames := 8, cells := 1, slots := 6, locals := 132 }) D (tyL cI cZ cS cJ) [.ref (O 0), .int x, .ref o] (List.flatten [arJ cJ o ww, clP cI cZ cS O k g a d w0 c f z V T n K G L v]) (fun u => Res (k2 (isB x) (wn3 (V 0) x.toNatClampNeg = 0)) u.1 (c, f, z, V) (cN c z, fN f z, savZ z, vput (savV V z) (mended (putS (V 0) x.toNatClampNeg))) (u.2.1, u.2.2.1, u.2.2.2.1, u.2.2.2.2.1) (V 0 1 x.toNatClampNeg + 1).toInt64 u.2.2.2.2.2) (fun u => some (.int u.1)) (fun u => List.flatten [arJ cJ o u.2.2.2.2.2, clP cI cZ cS O k g a d w0 u.2.1 u.2.2.1 u.2.2.2.1 u.2.2.2.2.1 T n K G L v]) 1 6 := by
  by_cases q1 : isB x
  · skip
    obtain ⟨b, hb8, rfl⟩ := bal_of q1
    have e0 : (nI b).toNatClampNeg = b := nI_clamp (by omega)
    by_cases q2 : wn3 (V 0) b = 0
    · skip
      exact CH_imp (h_putN l D cI cZ cS cJ hl9 O k g a d w0 c f z V T n K G L v o ww b hz6 hf hO hb8 q2) (fun _ _ => ⟨(0, cN c z, fN f z, savZ z, vput (savV V z) (mended (putS (V 0) b)), (((V 0) 1) b + 1).toInt64), by show Res _ _ _ _ _ _ _ ; rw [e0]; exact Res_ok (k2_0 q1 q2) rfl rfl rfl, rfl, rfl⟩)
    · skip
      exact CH_imp (h_putTS l D cI cZ cS cJ hl9 O k g a d w0 c f z V T n K G L v o ww b hb8 q2) (fun _ _ => ⟨(2, c, f, z, V, ww), by show Res _ _ _ _ _ _ _ ; exact Res_bad (by first | exact k2_2 q1 q2 | (rw [e0]; exact k2_2 q1 q2)) z9_2 rfl, rfl, rfl⟩)
  · skip
    exact CH_imp (h_putTI l D cI cZ cS cJ hl9 O k g a d w0 c f z V T n K G L v o ww x q1) (fun _ _ => ⟨(1, c, f, z, V, ww), by show Res _ _ _ _ _ _ _ ; exact Res_bad (k2_1 q1) z9_1 rfl, rfl, rfl⟩)

set_option maxHeartbeats 4000000 in
theorem h_leak (l : Launch) (D : va_G) (cI cZ cS cJ : ClassId) (hl9 : l.stackTraces = false) (O k g a d : Nat → Nat) (w0 : Int32) (c : Nat → Nat → Nat) (f : Nat → Option Nat) (z : Nat) (V : Nat → Nat → Nat → Int32) (T : Nat → Int32) (n : Nat) (K G : Nat → Nat → Int32) (L : Nat → Int32) (v : Int32) (o : Nat) (ww : Int64) (x : Int32) (y : Int32) (hz6 : z ≤ 6) (hf : ∀ i, i < 6 → f i = some (c i 0)) (hO : OK (V 0)) : CH (U := Int32 × (Nat → Nat → Nat) × (Nat → Option Nat) × Nat × (Nat → Nat → Nat → Int32) × Int64) l yL_leak wsL_leak ({ frames := 8, cells := 1, slots := 6, locals := 127 }) D (tyL cI cZ cS cJ) [.ref (O 0), .int x, .int y, .ref o] (List.flatten [arJ cJ o ww, clP cI cZ cS O k g a d w0 c f z V T n K G L v]) (fun u => Res (k2 (isB x) (inR y 0 9)) u.1 (c, f, z, V) (cN c z, fN f z, savZ z, vput (savV V z) (leaS (V 0) x.toNatClampNeg y)) (u.2.1, u.2.2.1, u.2.2.2.1, u.2.2.2.2.1) (V 0 2 x.toNatClampNeg).toInt64 u.2.2.2.2.2) (fun u => some (.int u.1)) (fun u => List.flatten [arJ cJ o u.2.2.2.2.2, clP cI cZ cS O k g a d w0 u.2.1 u.2.2.1 u.2.2.2.1 u.2.2.2.2.1 T n K G L v]) 1 6 := by
  by_cases q1 : isB x
  · skip
    obtain ⟨b, hb8, rfl⟩ := bal_of q1
    have e0 : (nI b).toNatClampNeg = b := nI_clamp (by omega)
    by_cases q2 : inR y 0 9
    · skip
      exact CH_imp (h_leakN l D cI cZ cS cJ hl9 O k g a d w0 c f z V T n K G L v o ww b y hz6 hf hO hb8 q2.1 (Int32.not_lt.mp q2.2)) (fun _ _ => ⟨(0, cN c z, fN f z, savZ z, vput (savV V z) (leaS (V 0) b y), (((V 0) 2) b).toInt64), by show Res _ _ _ _ _ _ _ ; rw [e0]; exact Res_ok (k2_0 q1 q2) rfl rfl rfl, rfl, rfl⟩)
    · skip
      exact CH_imp (h_leakTA l D cI cZ cS cJ hl9 O k g a d w0 c f z V T n K G L v o ww b y hb8 q2) (fun _ _ => ⟨(2, c, f, z, V, ww), by show Res _ _ _ _ _ _ _ ; exact Res_bad (by first | exact k2_2 q1 q2 | (rw [e0]; exact k2_2 q1 q2)) z9_2 rfl, rfl, rfl⟩)
  · skip
    exact CH_imp (h_leakTI l D cI cZ cS cJ hl9 O k g a d w0 c f z V T n K G L v o ww x y q1) (fun _ _ => ⟨(1, c, f, z, V, ww), by show Res _ _ _ _ _ _ _ ; exact Res_bad (k2_1 q1) z9_1 rfl, rfl, rfl⟩)

set_option maxHeartbeats 4000000 in
theorem h_tie (l : Launch) (D : va_G) (cI cZ cS cJ : ClassId) (hl9 : l.stackTraces = false) (O k g a d : Nat → Nat) (w0 : Int32) (c : Nat → Nat → Nat) (f : Nat → Option Nat) (z : Nat) (V : Nat → Nat → Nat → Int32) (T : Nat → Int32) (n : Nat) (K G : Nat → Nat → Int32) (L : Nat → Int32) (v : Int32) (o : Nat) (ww : Int64) (x : Int32) (y : Int32) (hz6 : z ≤ 6) (hf : ∀ i, i < 6 → f i = some (c i 0)) (hO : OK (V 0)) : CH (U := Int32 × (Nat → Nat → Nat) × (Nat → Option Nat) × Nat × (Nat → Nat → Nat → Int32) × Int64) l yL_tie wsL_tie ({ frames := 8, cells := 1, slots := 6, locals := 133 }) D (tyL cI cZ cS cJ) [.ref (O 0), .int x, .int y, .ref o] (List.flatten [arJ cJ o ww, clP cI cZ cS O k g a d w0 c f z V T n K G L v]) (fun u => Res (k3 (isR x) (inR y 0 300) (wnt (V 0) x.toNatClampNeg y = 0)) u.1 (c, f, z, V) (cN c z, fN f z, savZ z, vput (savV V z) (mended (tieS (V 0) x.toNatClampNeg y))) (u.2.1, u.2.2.1, u.2.2.2.1, u.2.2.2.2.1) (nI (se (mended (tieS (V 0) x.toNatClampNeg y)) (7 - x.toNatClampNeg) x.toNatClampNeg - ss (mended (tieS (V 0) x.toNatClampNeg y)) x.toNatClampNeg + 1)).toInt64 u.2.2.2.2.2) (fun u => some (.int u.1)) (fun u => List.flatten [arJ cJ o u.2.2.2.2.2, clP cI cZ cS O k g a d w0 u.2.1 u.2.2.1 u.2.2.2.1 u.2.2.2.2.1 T n K G L v]) 1 6 := by
  by_cases q1 : isR x
  · skip
    obtain ⟨r, hr7, rfl⟩ := rib_of q1
    have e0 : (nI r).toNatClampNeg = r := nI_clamp (by omega)
    by_cases q2 : inR y 0 300
    · skip
      by_cases q3 : wnt (V 0) r y = 0
      · skip
        exact CH_imp (h_tieN l D cI cZ cS cJ hl9 O k g a d w0 c f z V T n K G L v o ww r y hz6 hf hO hr7 q2.1 (Int32.not_lt.mp q2.2) q3) (fun _ _ => ⟨(0, cN c z, fN f z, savZ z, vput (savV V z) (mended (tieS (V 0) r y)), (nI (se (mended (tieS (V 0) r y)) (7 - r) r - ss (mended (tieS (V 0) r y)) r + 1)).toInt64), by show Res _ _ _ _ _ _ _ ; rw [e0]; exact Res_ok (k3_0 q1 q2 q3) rfl rfl rfl, rfl, rfl⟩)
      · skip
        exact CH_imp (h_tieTS l D cI cZ cS cJ hl9 O k g a d w0 c f z V T n K G L v o ww r y hr7 q2.1 (Int32.not_lt.mp q2.2) q3) (fun _ _ => ⟨(3, c, f, z, V, ww), by show Res _ _ _ _ _ _ _ ; exact Res_bad (by first | exact k3_3 q1 q2 q3 | (rw [e0]; exact k3_3 q1 q2 q3)) z9_3 rfl, rfl, rfl⟩)
    · skip
      exact CH_imp (h_tieTA l D cI cZ cS cJ hl9 O k g a d w0 c f z V T n K G L v o ww r y hr7 q2) (fun _ _ => ⟨(2, c, f, z, V, ww), by show Res _ _ _ _ _ _ _ ; exact Res_bad (by first | exact k3_2 q1 q2 | (rw [e0]; exact k3_2 q1 q2)) z9_2 rfl, rfl, rfl⟩)
  · skip
    exact CH_imp (h_tieTI l D cI cZ cS cJ hl9 O k g a d w0 c f z V T n K G L v o ww x y q1) (fun _ _ => ⟨(1, c, f, z, V, ww), by show Res _ _ _ _ _ _ _ ; exact Res_bad (k3_1 q1) z9_1 rfl, rfl, rfl⟩)

set_option maxHeartbeats 4000000 in
theorem h_cut (l : Launch) (D : va_G) (cI cZ cS cJ : ClassId) (hl9 : l.stackTraces = false) (O k g a d : Nat → Nat) (w0 : Int32) (c : Nat → Nat → Nat) (f : Nat → Option Nat) (z : Nat) (V : Nat → Nat → Nat → Int32) (T : Nat → Int32) (n : Nat) (K G : Nat → Nat → Int32) (L : Nat → Int32) (v : Int32) (o : Nat) (ww : Int64) (x : Int32) (hz6 : z ≤ 6) (hf : ∀ i, i < 6 → f i = some (c i 0)) (hO : OK (V 0)) : CH (U := Int32 × (Nat → Nat → Nat) × (Nat → Option Nat) × Nat × (Nat → Nat → Nat → Int32) × Int64) l yL_cut wsL_cut ({ frames := 8, cells := 1, slots := 6, locals := 133 }) D (tyL cI cZ cS cJ) [.ref (O 0), .int x, .ref o] (List.flatten [arJ cJ o ww, clP cI cZ cS O k g a d w0 c f z V T n K G L v]) (fun u => Res (k2 (isR x) (wn5 (V 0) x.toNatClampNeg = 0)) u.1 (c, f, z, V) (cN c z, fN f z, savZ z, vput (savV V z) (mended (cutS (V 0) x.toNatClampNeg))) (u.2.1, u.2.2.1, u.2.2.2.1, u.2.2.2.2.1) (hsm (mended (cutS (V 0) x.toNatClampNeg)) - hsm (V 0)).toInt64 u.2.2.2.2.2) (fun u => some (.int u.1)) (fun u => List.flatten [arJ cJ o u.2.2.2.2.2, clP cI cZ cS O k g a d w0 u.2.1 u.2.2.1 u.2.2.2.1 u.2.2.2.2.1 T n K G L v]) 1 6 := by
  by_cases q1 : isR x
  · skip
    obtain ⟨r, hr7, rfl⟩ := rib_of q1
    have e0 : (nI r).toNatClampNeg = r := nI_clamp (by omega)
    by_cases q2 : wn5 (V 0) r = 0
    · skip
      exact CH_imp (h_cutN l D cI cZ cS cJ hl9 O k g a d w0 c f z V T n K G L v o ww r hz6 hf hO hr7 q2) (fun _ _ => ⟨(0, cN c z, fN f z, savZ z, vput (savV V z) (mended (cutS (V 0) r)), (sm (ht (cutS (V 0) r)) 8 - (sm ((V 0) 6) 8)).toInt64), by show Res _ _ _ _ _ _ _ ; rw [e0]; exact Res_ok (k2_0 q1 q2) rfl rfl (congrArg Int32.toInt64 (cut_eq hO.2.1)), rfl, rfl⟩)
    · skip
      exact CH_imp (h_cutTS l D cI cZ cS cJ hl9 O k g a d w0 c f z V T n K G L v o ww r hr7 q2) (fun _ _ => ⟨(2, c, f, z, V, ww), by show Res _ _ _ _ _ _ _ ; exact Res_bad (by first | exact k2_2 q1 q2 | (rw [e0]; exact k2_2 q1 q2)) z9_2 rfl, rfl, rfl⟩)
  · skip
    exact CH_imp (h_cutTI l D cI cZ cS cJ hl9 O k g a d w0 c f z V T n K G L v o ww x q1) (fun _ _ => ⟨(1, c, f, z, V, ww), by show Res _ _ _ _ _ _ _ ; exact Res_bad (k2_1 q1) z9_1 rfl, rfl, rfl⟩)

set_option maxHeartbeats 4000000 in
theorem h_bear (l : Launch) (D : va_G) (cI cZ cS cJ : ClassId) (hl9 : l.stackTraces = false) (O k g a d : Nat → Nat) (w0 : Int32) (c : Nat → Nat → Nat) (f : Nat → Option Nat) (z : Nat) (V : Nat → Nat → Nat → Int32) (T : Nat → Int32) (n : Nat) (K G : Nat → Nat → Int32) (L : Nat → Int32) (v : Int32) (o : Nat) (ww : Int64) (x : Int32) (y : Int32) (hz6 : z ≤ 6) (hf : ∀ i, i < 6 → f i = some (c i 0)) (hO : OK (V 0)) : CH (U := Int32 × (Nat → Nat → Nat) × (Nat → Option Nat) × Nat × (Nat → Nat → Nat → Int32) × Int64) l yL_bear wsL_bear ({ frames := 8, cells := 1, slots := 6, locals := 127 }) D (tyL cI cZ cS cJ) [.ref (O 0), .int x, .int y, .ref o] (List.flatten [arJ cJ o ww, clP cI cZ cS O k g a d w0 c f z V T n K G L v]) (fun u => Res (k2 (isR x) (inR y 0 500)) u.1 (c, f, z, V) (cN c z, fN f z, savZ z, vput (savV V z) (beaS (V 0) x.toNatClampNeg y)) (u.2.1, u.2.2.1, u.2.2.2.1, u.2.2.2.2.1) (V 0 5 x.toNatClampNeg).toInt64 u.2.2.2.2.2) (fun u => some (.int u.1)) (fun u => List.flatten [arJ cJ o u.2.2.2.2.2, clP cI cZ cS O k g a d w0 u.2.1 u.2.2.1 u.2.2.2.1 u.2.2.2.2.1 T n K G L v]) 1 6 := by
  by_cases q1 : isR x
  · skip
    obtain ⟨r, hr7, rfl⟩ := rib_of q1
    have e0 : (nI r).toNatClampNeg = r := nI_clamp (by omega)
    by_cases q2 : inR y 0 500
    · skip
      exact CH_imp (h_bearN l D cI cZ cS cJ hl9 O k g a d w0 c f z V T n K G L v o ww r y hz6 hf hO hr7 q2.1 (Int32.not_lt.mp q2.2)) (fun _ _ => ⟨(0, cN c z, fN f z, savZ z, vput (savV V z) (beaS (V 0) r y), (((V 0) 5) r).toInt64), by show Res _ _ _ _ _ _ _ ; rw [e0]; exact Res_ok (k2_0 q1 q2) rfl rfl rfl, rfl, rfl⟩)
    · skip
      exact CH_imp (h_bearTA l D cI cZ cS cJ hl9 O k g a d w0 c f z V T n K G L v o ww r y hr7 q2) (fun _ _ => ⟨(2, c, f, z, V, ww), by show Res _ _ _ _ _ _ _ ; exact Res_bad (by first | exact k2_2 q1 q2 | (rw [e0]; exact k2_2 q1 q2)) z9_2 rfl, rfl, rfl⟩)
  · skip
    exact CH_imp (h_bearTI l D cI cZ cS cJ hl9 O k g a d w0 c f z V T n K G L v o ww x y q1) (fun _ _ => ⟨(1, c, f, z, V, ww), by show Res _ _ _ _ _ _ _ ; exact Res_bad (k2_1 q1) z9_1 rfl, rfl, rfl⟩)

set_option maxHeartbeats 4000000 in
theorem h_tune (l : Launch) (D : va_G) (cI cZ cS cJ : ClassId) (hl9 : l.stackTraces = false) (O k g a d : Nat → Nat) (w0 : Int32) (c : Nat → Nat → Nat) (f : Nat → Option Nat) (z : Nat) (V : Nat → Nat → Nat → Int32) (T : Nat → Int32) (n : Nat) (K G : Nat → Nat → Int32) (L : Nat → Int32) (v : Int32) (o : Nat) (ww : Int64) (x : Int32) (y : Int32) (hz6 : z ≤ 6) (hf : ∀ i, i < 6 → f i = some (c i 0)) (hO : OK (V 0)) : CH (U := Int32 × (Nat → Nat → Nat) × (Nat → Option Nat) × Nat × (Nat → Nat → Nat → Int32) × Int64) l yL_tune wsL_tune ({ frames := 8, cells := 1, slots := 6, locals := 127 }) D (tyL cI cZ cS cJ) [.ref (O 0), .int x, .int y, .ref o] (List.flatten [arJ cJ o ww, clP cI cZ cS O k g a d w0 c f z V T n K G L v]) (fun u => Res (k2 (isB x) (inR y (-20) 20)) u.1 (c, f, z, V) (cN c z, fN f z, savZ z, vput (savV V z) (tunS (V 0) x.toNatClampNeg y)) (u.2.1, u.2.2.1, u.2.2.2.1, u.2.2.2.2.1) (tel (V 0) x.toNatClampNeg).toInt64 u.2.2.2.2.2) (fun u => some (.int u.1)) (fun u => List.flatten [arJ cJ o u.2.2.2.2.2, clP cI cZ cS O k g a d w0 u.2.1 u.2.2.1 u.2.2.2.1 u.2.2.2.2.1 T n K G L v]) 1 6 := by
  by_cases q1 : isB x
  · skip
    obtain ⟨b, hb8, rfl⟩ := bal_of q1
    have e0 : (nI b).toNatClampNeg = b := nI_clamp (by omega)
    by_cases q2 : inR y (-20) 20
    · skip
      exact CH_imp (h_tuneN l D cI cZ cS cJ hl9 O k g a d w0 c f z V T n K G L v o ww b y hz6 hf hO hb8 q2.1 (Int32.not_lt.mp q2.2)) (fun _ _ => ⟨(0, cN c z, fN f z, savZ z, vput (savV V z) (tunS (V 0) b y), (tel (V 0) b).toInt64), by show Res _ _ _ _ _ _ _ ; rw [e0]; exact Res_ok (k2_0 q1 q2) rfl rfl rfl, rfl, rfl⟩)
    · skip
      exact CH_imp (h_tuneTA l D cI cZ cS cJ hl9 O k g a d w0 c f z V T n K G L v o ww b y hb8 q2) (fun _ _ => ⟨(2, c, f, z, V, ww), by show Res _ _ _ _ _ _ _ ; exact Res_bad (by first | exact k2_2 q1 q2 | (rw [e0]; exact k2_2 q1 q2)) z9_2 rfl, rfl, rfl⟩)
  · skip
    exact CH_imp (h_tuneTI l D cI cZ cS cJ hl9 O k g a d w0 c f z V T n K G L v o ww x y q1) (fun _ _ => ⟨(1, c, f, z, V, ww), by show Res _ _ _ _ _ _ _ ; exact Res_bad (k2_1 q1) z9_1 rfl, rfl, rfl⟩)

set_option maxHeartbeats 4000000 in
theorem h_note (l : Launch) (D : va_G) (cI cZ cS cJ : ClassId) (hl9 : l.stackTraces = false) (O k g a d : Nat → Nat) (w0 : Int32) (c : Nat → Nat → Nat) (f : Nat → Option Nat) (z : Nat) (V : Nat → Nat → Nat → Int32) (T : Nat → Int32) (n : Nat) (K G : Nat → Nat → Int32) (L : Nat → Int32) (v : Int32) (o : Nat) (ww : Int64) (x : Int32) (hz6 : z ≤ 6) (hf : ∀ i, i < 6 → f i = some (c i 0)) (hO : OK (V 0)) : CH (U := Int32 × (Nat → Nat → Nat) × (Nat → Option Nat) × Nat × (Nat → Nat → Nat → Int32) × Int64) l yL_note wsL_note ({ frames := 8, cells := 1, slots := 6, locals := 123 }) D (tyL cI cZ cS cJ) [.ref (O 0), .int x, .ref o] (List.flatten [arJ cJ o ww, clP cI cZ cS O k g a d w0 c f z V T n K G L v]) (fun u => Res (k1 (isB x)) u.1 (c, f, z, V) (cN c z, fN f z, savZ z, vput (savV V z) (notS (V 0) (cy (V 0)) x.toNatClampNeg)) (u.2.1, u.2.2.1, u.2.2.2.1, u.2.2.2.2.1) (tel (V 0) x.toNatClampNeg).toInt64 u.2.2.2.2.2) (fun u => some (.int u.1)) (fun u => List.flatten [arJ cJ o u.2.2.2.2.2, clP cI cZ cS O k g a d w0 u.2.1 u.2.2.1 u.2.2.2.1 u.2.2.2.2.1 T n K G L v]) 1 6 := by
  by_cases q1 : isB x
  · skip
    obtain ⟨b, hb8, rfl⟩ := bal_of q1
    have e0 : (nI b).toNatClampNeg = b := nI_clamp (by omega)
    exact CH_imp (h_noteN l D cI cZ cS cJ hl9 O k g a d w0 c f z V T n K G L v o ww b hz6 hf hO hb8) (fun _ _ => ⟨(0, cN c z, fN f z, savZ z, vput (savV V z) (notS (V 0) (cy (V 0)) b), (tel (V 0) b).toInt64), by show Res _ _ _ _ _ _ _ ; rw [e0]; exact Res_ok (k1_0 q1) rfl rfl rfl, rfl, rfl⟩)
  · skip
    exact CH_imp (h_noteTI l D cI cZ cS cJ hl9 O k g a d w0 c f z V T n K G L v o ww x q1) (fun _ _ => ⟨(1, c, f, z, V, ww), by show Res _ _ _ _ _ _ _ ; exact Res_bad (k1_1 q1) z9_1 rfl, rfl, rfl⟩)

set_option maxHeartbeats 4000000 in
theorem h_pass (l : Launch) (D : va_G) (cI cZ cS cJ : ClassId) (hl9 : l.stackTraces = false) (O k g a d : Nat → Nat) (w0 : Int32) (c : Nat → Nat → Nat) (f : Nat → Option Nat) (z : Nat) (V : Nat → Nat → Nat → Int32) (T : Nat → Int32) (n : Nat) (K G : Nat → Nat → Int32) (L : Nat → Int32) (v : Int32) (o : Nat) (ww : Int64) (x : Int32) (hz6 : z ≤ 6) (hf : ∀ i, i < 6 → f i = some (c i 0)) (hO : OK (V 0)) : CH (U := Int32 × (Nat → Nat → Nat) × (Nat → Option Nat) × Nat × (Nat → Nat → Nat → Int32) × Int64) l yL_pass wsL_pass ({ frames := 8, cells := 1, slots := 6, locals := 155 }) D (tyL cI cZ cS cJ) [.ref (O 0), .int x, .ref o] (List.flatten [arJ cJ o ww, clP cI cZ cS O k g a d w0 c f z V T n K G L v]) (fun u => Res (k1 (inR x 1 99)) u.1 (c, f, z, V) (cN c z, fN f z, savZ z, vput (savV V z) (hrs (V 0) x.toNatClampNeg)) (u.2.1, u.2.2.1, u.2.2.2.1, u.2.2.2.2.1) (sm (fun k => svn (hrs (V 0) k)) x.toNatClampNeg).toInt64 u.2.2.2.2.2) (fun u => some (.int u.1)) (fun u => List.flatten [arJ cJ o u.2.2.2.2.2, clP cI cZ cS O k g a d w0 u.2.1 u.2.2.1 u.2.2.2.1 u.2.2.2.2.1 T n K G L v]) 1 6 := by
  by_cases q1 : inR x 1 99
  · skip
    obtain ⟨nh, hw9, rfl⟩ := num_of (hi := 99) (n := 99) (by decide) ⟨fun h9 => q1.1 (Int32.lt_trans h9 (by decide)), q1.2⟩
    have e0 : (nI nh).toNatClampNeg = nh := nI_clamp (by omega)
    exact CH_imp (h_passN l D cI cZ cS cJ hl9 O k g a d w0 c f z V T n K G L v o ww nh hz6 hf hO q1.1 (Int32.not_lt.mp q1.2) (by omega)) (fun _ _ => ⟨(0, cN c z, fN f z, savZ z, vput (savV V z) (hrs (V 0) nh), ((hrs (V 0) nh) 12 4 - ((V 0) 12 4)).toInt64), by show Res _ _ _ _ _ _ _ ; rw [e0]; exact Res_ok (k1_0 q1) rfl rfl (congrArg Int32.toInt64 (pas_eq _ _)), rfl, rfl⟩)
  · skip
    exact CH_imp (h_passTA l D cI cZ cS cJ hl9 O k g a d w0 c f z V T n K G L v o ww x q1) (fun _ _ => ⟨(1, c, f, z, V, ww), by show Res _ _ _ _ _ _ _ ; exact Res_bad (k1_1 q1) z9_1 rfl, rfl, rfl⟩)

set_option maxHeartbeats 4000000 in
theorem h_append (l : Launch) (D : va_G) (cI cZ cS cJ : ClassId) (hl9 : l.stackTraces = false) (O k g a d : Nat → Nat) (w0 : Int32) (c : Nat → Nat → Nat) (f : Nat → Option Nat) (z : Nat) (V : Nat → Nat → Nat → Int32) (T : Nat → Int32) (n : Nat) (K G : Nat → Nat → Int32) (L : Nat → Int32) (v : Int32) (o : Nat) (ww : Int64) (x : Int32) (hn : n ≤ 60) : CH (U := Int32 × (Nat → Int32) × Nat × Int64) l yL_append wsL_append ({ frames := 8, cells := 1, slots := 6, locals := 125 }) D (tyL cI cZ cS cJ) [.ref (O 0), .int x, .ref o] (List.flatten [arJ cJ o ww, clP cI cZ cS O k g a d w0 c f z V T n K G L v]) (fun u => Res (k2 (inR x 33 126) (n < 60)) u.1 (T, n) (upd T n x, n + 1) (u.2.1, u.2.2.1) (nI (n + 1)).toInt64 u.2.2.2) (fun u => some (.int u.1)) (fun u => List.flatten [arJ cJ o u.2.2.2, clP cI cZ cS O k g a d w0 c f z V u.2.1 u.2.2.1 K G L v]) 1 6 := by
  by_cases q1 : inR x 33 126
  · skip
    by_cases q2 : n < 60
    · skip
      exact CH_imp (h_appendN l D cI cZ cS cJ hl9 O k g a d w0 c f z V T n K G L v o ww x q2 q1.1 (Int32.not_lt.mp q1.2)) (fun _ _ => ⟨(0, upd T n x, n + 1, (nI (n + 1)).toInt64), by show Res _ _ _ _ _ _ _ ; exact Res_ok (k2_0 q1 q2) rfl rfl rfl, rfl, rfl⟩)
    · skip
      have hn60 : n = 60 := by omega
      exact CH_imp (h_appendTS l D cI cZ cS cJ hl9 O k g a d w0 c f z V T n K G L v o ww x hn60 q1.1 (Int32.not_lt.mp q1.2)) (fun _ _ => ⟨(2, T, n, ww), by show Res _ _ _ _ _ _ _ ; exact Res_bad (k2_2 q1 q2) z9_2 rfl, rfl, rfl⟩)
  · skip
    exact CH_imp (h_appendTA l D cI cZ cS cJ hl9 O k g a d w0 c f z V T n K G L v o ww x q1) (fun _ _ => ⟨(1, T, n, ww), by show Res _ _ _ _ _ _ _ ; exact Res_bad (k2_1 q1) z9_1 rfl, rfl, rfl⟩)

set_option maxHeartbeats 4000000 in
theorem h_work (l : Launch) (D : va_G) (cI cZ cS cJ : ClassId) (hl9 : l.stackTraces = false) (O k g a d : Nat → Nat) (w0 : Int32) (c : Nat → Nat → Nat) (f : Nat → Option Nat) (z : Nat) (V : Nat → Nat → Nat → Int32) (T : Nat → Int32) (n : Nat) (K G : Nat → Nat → Int32) (L : Nat → Int32) (v : Int32) (o : Nat) (ww : Int64)  (hz6 : z ≤ 6) (hf : ∀ i, i < 6 → f i = some (c i 0)) (hO : OK (V 0)) (h60 : n ≤ 60) : CH (U := Int32 × (Nat → Nat → Nat) × (Nat → Option Nat) × Nat × (Nat → Nat → Nat → Int32) × Nat × Int64) l yL_work wsL_work ({ frames := 8, cells := 1, slots := 6, locals := 180 }) D (tyL cI cZ cS cJ) [.ref (O 0), .ref o] (List.flatten [arJ cJ o ww, clP cI cZ cS O k g a d w0 c f z V T n K G L v]) (fun u => Res (k1 (rdS T n = 6 ∨ rdS T n = 7)) u.1 ((c, f, z, V), n) ((cN c z, fN f z, savZ z, vput (savV V z) ((wkT T n (V 0)).1)), 0) ((u.2.1, u.2.2.1, u.2.2.2.1, u.2.2.2.2.1), u.2.2.2.2.2.1) (nI (wkT T n (V 0)).2).toInt64 u.2.2.2.2.2.2) (fun u => some (.int u.1)) (fun u => List.flatten [arJ cJ o u.2.2.2.2.2.2, clP cI cZ cS O k g a d w0 u.2.1 u.2.2.1 u.2.2.2.1 u.2.2.2.2.1 T u.2.2.2.2.2.1 K G L v]) 1 6 := by
  by_cases q1 : rdS T n = 6 ∨ rdS T n = 7
  · skip
    exact CH_imp (h_workN l D cI cZ cS cJ hl9 O k g a d w0 c f z V T n K G L v o ww  hz6 hf hO h60 q1) (fun _ _ => ⟨(0, cN c z, fN f z, savZ z, vput (savV V z) ((wkT T n (V 0)).1), 0, (nI ((wkT T n (V 0)).2)).toInt64), by show Res _ _ _ _ _ _ _ ; exact Res_ok (k1_0 q1) rfl rfl rfl, rfl, rfl⟩)
  · skip
    skip
    exact CH_imp (h_workTA l D cI cZ cS cJ hl9 O k g a d w0 c f z V T n K G L v o ww  h60 q1) (fun _ _ => ⟨(1, c, f, z, V, n, ww), by show Res _ _ _ _ _ _ _ ; exact Res_bad (k1_1 q1) z9_1 rfl, rfl, rfl⟩)

set_option maxHeartbeats 4000000 in
theorem h_goBack (l : Launch) (D : va_G) (cI cZ cS cJ : ClassId) (hl9 : l.stackTraces = false) (O k g a d : Nat → Nat) (w0 : Int32) (c : Nat → Nat → Nat) (f : Nat → Option Nat) (z : Nat) (V : Nat → Nat → Nat → Int32) (T : Nat → Int32) (n : Nat) (K G : Nat → Nat → Int32) (L : Nat → Int32) (v : Int32) (o : Nat) (ww : Int64)  (hz6 : z ≤ 6) (hf : ∀ i, i < 6 → f i = some (c i 0)) (hO : OK (V 0)) (hS7 : w0 = 0 ∨ OK (V 7)) : CH (U := Int32 × (Nat → Nat → Nat) × (Nat → Option Nat) × Nat × (Nat → Nat → Nat → Int32) × Int64) l yL_goBack wsL_goBack ({ frames := 7, cells := 1, slots := 6, locals := 102 }) D (tyL cI cZ cS cJ) [.ref (O 0), .ref o] (List.flatten [arJ cJ o ww, clP cI cZ cS O k g a d w0 c f z V T n K G L v]) (fun u => Res (k1 (¬ w0 = 0)) u.1 (c, f, z, V) (cN c z, fN f z, savZ z, vput (savV V z) (V 7)) (u.2.1, u.2.2.1, u.2.2.2.1, u.2.2.2.2.1) (V 7 12 0).toInt64 u.2.2.2.2.2) (fun u => some (.int u.1)) (fun u => List.flatten [arJ cJ o u.2.2.2.2.2, clP cI cZ cS O k g a d w0 u.2.1 u.2.2.1 u.2.2.2.1 u.2.2.2.2.1 T n K G L v]) 1 6 := by
  by_cases q1 : ¬ w0 = 0
  · skip
    exact CH_imp (h_goBackN l D cI cZ cS cJ hl9 O k g a d w0 c f z V T n K G L v o ww  hz6 hf hO q1 ((hS7).resolve_left q1)) (fun _ _ => ⟨(0, cN c z, fN f z, savZ z, vput (savV V z) (V 7), ((V 7) 12 0).toInt64), by show Res _ _ _ _ _ _ _ ; exact Res_ok (k1_0 q1) rfl rfl rfl, rfl, rfl⟩)
  · skip
    obtain rfl : w0 = 0 := Classical.not_not.mp q1
    exact CH_imp (h_goBackTS l D cI cZ cS cJ hl9 O k g a d 0 c f z V T n K G L v o ww  ) (fun _ _ => ⟨(1, c, f, z, V, ww), by show Res _ _ _ _ _ _ _ ; exact Res_bad (k1_1 q1) z9_1 rfl, rfl, rfl⟩)

set_option maxHeartbeats 4000000 in
theorem h_undo (l : Launch) (D : va_G) (cI cZ cS cJ : ClassId) (hl9 : l.stackTraces = false) (O k g a d : Nat → Nat) (w0 : Int32) (c : Nat → Nat → Nat) (f : Nat → Option Nat) (z : Nat) (V : Nat → Nat → Nat → Int32) (T : Nat → Int32) (n : Nat) (K G : Nat → Nat → Int32) (L : Nat → Int32) (v : Int32) (o : Nat) (ww : Int64)  (hz6 : z ≤ 6) (hf : ∀ i, i < 6 → f i = some (c i 0)) (hOs : 0 < z → OK (V z)) : CH (U := Int32 × (Nat → Nat → Nat) × (Nat → Option Nat) × Nat × (Nat → Nat → Nat → Int32) × Int64) l yL_undo wsL_undo ({ frames := 7, cells := 1, slots := 6, locals := 102 }) D (tyL cI cZ cS cJ) [.ref (O 0), .ref o] (List.flatten [arJ cJ o ww, clP cI cZ cS O k g a d w0 c f z V T n K G L v]) (fun u => Res (k1 (0 < z)) u.1 (c, f, z, V) (c, f, z - 1, vput V (V z)) (u.2.1, u.2.2.1, u.2.2.2.1, u.2.2.2.2.1) (nI (z - 1)).toInt64 u.2.2.2.2.2) (fun u => some (.int u.1)) (fun u => List.flatten [arJ cJ o u.2.2.2.2.2, clP cI cZ cS O k g a d w0 u.2.1 u.2.2.1 u.2.2.2.1 u.2.2.2.2.1 T n K G L v]) 1 6 := by
  by_cases q1 : 0 < z
  · skip
    exact CH_imp (h_undoN l D cI cZ cS cJ hl9 O k g a d w0 c f z V T n K G L v o ww  hz6 hf q1 (hOs q1)) (fun _ _ => ⟨(0, c, f, z - 1, vput V (V z), (nI (z - 1)).toInt64), by show Res _ _ _ _ _ _ _ ; exact Res_ok (k1_0 q1) rfl rfl rfl, rfl, rfl⟩)
  · skip
    obtain rfl : z = 0 := by omega
    exact CH_imp (h_undoTS l D cI cZ cS cJ hl9 O k g a d w0 c f 0 V T n K G L v o ww  ) (fun _ _ => ⟨(1, c, f, 0, V, ww), by show Res _ _ _ _ _ _ _ ; exact Res_bad (k1_1 q1) z9_1 rfl, rfl, rfl⟩)

set_option maxHeartbeats 4000000 in
theorem h_balloon (l : Launch) (D : va_G) (cI cZ cS cJ : ClassId) (hl9 : l.stackTraces = false) (O k g a d : Nat → Nat) (w0 : Int32) (c : Nat → Nat → Nat) (f : Nat → Option Nat) (z : Nat) (V : Nat → Nat → Nat → Int32) (T : Nat → Int32) (n : Nat) (K G : Nat → Nat → Int32) (L : Nat → Int32) (v : Int32) (o : Nat) (ww : Int64) (x : Int32) (y : Int32)  : CH (U := Int32 × Int64) l yL_balloon wsL_balloon ({ frames := 8, cells := 1, slots := 6, locals := 127 }) D (tyL cI cZ cS cJ) [.ref (O 0), .int x, .int y, .ref o] (List.flatten [arJ cJ o ww, clP cI cZ cS O k g a d w0 c f z V T n K G L v]) (fun u => LkJ (k2 (isB x) (inR y 0 11)) u.1 (balS (V 0) x.toNatClampNeg y.toNatClampNeg).toInt64 u.2) (fun u => some (.int u.1)) (fun u => List.flatten [arJ cJ o u.2, clP cI cZ cS O k g a d w0 c f z V T n K G L v]) 1 6 := by
  by_cases q1 : isB x
  · skip
    obtain ⟨b, hb8, rfl⟩ := bal_of q1
    have e0 : (nI b).toNatClampNeg = b := nI_clamp (by omega)
    by_cases q2 : inR y 0 11
    · skip
      obtain ⟨w, hw9, rfl⟩ := num_of (hi := 11) (n := 11) (by decide) q2
      have e1 : (nI w).toNatClampNeg = w := nI_clamp (by omega)
      exact CH_imp (h_balloonN l D cI cZ cS cJ hl9 O k g a d w0 c f z V T n K G L v o ww b w hb8 (by omega)) (fun _ _ => ⟨(0, (balS (V 0) b w).toInt64), by show LkJ _ _ _ _ ; rw [e0, e1]; exact LkJ_ok (k2_0 q1 q2) rfl rfl, rfl, rfl⟩)
    · skip
      exact CH_imp (h_balloonTA l D cI cZ cS cJ hl9 O k g a d w0 c f z V T n K G L v o ww b y hb8 q2) (fun _ _ => ⟨(2, ww), by show LkJ _ _ _ _ ; exact LkJ_bad (by first | exact k2_2 q1 q2 | (rw [e0]; exact k2_2 q1 q2)) z9_2, rfl, rfl⟩)
  · skip
    exact CH_imp (h_balloonTI l D cI cZ cS cJ hl9 O k g a d w0 c f z V T n K G L v o ww x y q1) (fun _ _ => ⟨(1, ww), by show LkJ _ _ _ _ ; exact LkJ_bad (k2_1 q1) z9_1, rfl, rfl⟩)

set_option maxHeartbeats 4000000 in
theorem h_ribbon (l : Launch) (D : va_G) (cI cZ cS cJ : ClassId) (hl9 : l.stackTraces = false) (O k g a d : Nat → Nat) (w0 : Int32) (c : Nat → Nat → Nat) (f : Nat → Option Nat) (z : Nat) (V : Nat → Nat → Nat → Int32) (T : Nat → Int32) (n : Nat) (K G : Nat → Nat → Int32) (L : Nat → Int32) (v : Int32) (o : Nat) (ww : Int64) (x : Int32) (y : Int32)  : CH (U := Int32 × Int64) l yL_ribbon wsL_ribbon ({ frames := 8, cells := 1, slots := 6, locals := 131 }) D (tyL cI cZ cS cJ) [.ref (O 0), .int x, .int y, .ref o] (List.flatten [arJ cJ o ww, clP cI cZ cS O k g a d w0 c f z V T n K G L v]) (fun u => LkJ (k2 (isR x) (inR y 0 4)) u.1 (ribS (V 0) x.toNatClampNeg y.toNatClampNeg).toInt64 u.2) (fun u => some (.int u.1)) (fun u => List.flatten [arJ cJ o u.2, clP cI cZ cS O k g a d w0 c f z V T n K G L v]) 1 6 := by
  by_cases q1 : isR x
  · skip
    obtain ⟨r, hr7, rfl⟩ := rib_of q1
    have e0 : (nI r).toNatClampNeg = r := nI_clamp (by omega)
    by_cases q2 : inR y 0 4
    · skip
      obtain ⟨w, hw9, rfl⟩ := num_of (hi := 4) (n := 4) (by decide) q2
      have e1 : (nI w).toNatClampNeg = w := nI_clamp (by omega)
      exact CH_imp (h_ribbonN l D cI cZ cS cJ hl9 O k g a d w0 c f z V T n K G L v o ww r w hr7 (by omega)) (fun _ _ => ⟨(0, (ribS (V 0) r w).toInt64), by show LkJ _ _ _ _ ; rw [e0, e1]; exact LkJ_ok (k2_0 q1 q2) rfl rfl, rfl, rfl⟩)
    · skip
      exact CH_imp (h_ribbonTA l D cI cZ cS cJ hl9 O k g a d w0 c f z V T n K G L v o ww r y hr7 q2) (fun _ _ => ⟨(2, ww), by show LkJ _ _ _ _ ; exact LkJ_bad (by first | exact k2_2 q1 q2 | (rw [e0]; exact k2_2 q1 q2)) z9_2, rfl, rfl⟩)
  · skip
    exact CH_imp (h_ribbonTI l D cI cZ cS cJ hl9 O k g a d w0 c f z V T n K G L v o ww x y q1) (fun _ _ => ⟨(1, ww), by show LkJ _ _ _ _ ; exact LkJ_bad (k2_1 q1) z9_1, rfl, rfl⟩)

set_option maxHeartbeats 4000000 in
theorem h_noted (l : Launch) (D : va_G) (cI cZ cS cJ : ClassId) (hl9 : l.stackTraces = false) (O k g a d : Nat → Nat) (w0 : Int32) (c : Nat → Nat → Nat) (f : Nat → Option Nat) (z : Nat) (V : Nat → Nat → Nat → Int32) (T : Nat → Int32) (n : Nat) (K G : Nat → Nat → Int32) (L : Nat → Int32) (v : Int32) (o : Nat) (ww : Int64) (x : Int32) (y : Int32) (hO : OK (V 0)) : CH (U := Int32 × Int64) l yL_noted wsL_noted ({ frames := 8, cells := 1, slots := 6, locals := 126 }) D (tyL cI cZ cS cJ) [.ref (O 0), .int x, .int y, .ref o] (List.flatten [arJ cJ o ww, clP cI cZ cS O k g a d w0 c f z V T n K G L v]) (fun u => LkJ (k2 (¬ x < 0) (inR y 0 2)) u.1 (ntl (V 0) (cy (V 0)) x.toNatClampNeg y.toNatClampNeg).toInt64 u.2) (fun u => some (.int u.1)) (fun u => List.flatten [arJ cJ o u.2, clP cI cZ cS O k g a d w0 c f z V T n K G L v]) 1 6 := by
  by_cases q1 : ¬ x < 0
  · skip
    obtain ⟨r, hr9, rfl⟩ := nat_of q1
    have e0 : (nI r).toNatClampNeg = r := nI_clamp (by omega)
    by_cases q2 : inR y 0 2
    · skip
      obtain ⟨w, hw9, rfl⟩ := num_of (hi := 2) (n := 2) (by decide) q2
      have e1 : (nI w).toNatClampNeg = w := nI_clamp (by omega)
      exact CH_imp (h_notedN l D cI cZ cS cJ hl9 O k g a d w0 c f z V T n K G L v o ww r w hO hr9 (by omega)) (fun _ _ => ⟨(0, (ntl (V 0) (cy (V 0)) r w).toInt64), by show LkJ _ _ _ _ ; rw [e0, e1]; exact LkJ_ok (k2_0 q1 q2) rfl rfl, rfl, rfl⟩)
    · skip
      exact CH_imp (h_notedTA l D cI cZ cS cJ hl9 O k g a d w0 c f z V T n K G L v o ww r y hr9 q2) (fun _ _ => ⟨(2, ww), by show LkJ _ _ _ _ ; exact LkJ_bad (by first | exact k2_2 q1 q2 | (rw [e0]; exact k2_2 q1 q2)) z9_2, rfl, rfl⟩)
  · skip
    exact CH_imp (h_notedTI l D cI cZ cS cJ hl9 O k g a d w0 c f z V T n K G L v o ww x y (Classical.not_not.mp q1)) (fun _ _ => ⟨(1, ww), by show LkJ _ _ _ _ ; exact LkJ_bad (k2_1 q1) z9_1, rfl, rfl⟩)

set_option maxHeartbeats 4000000 in
theorem h_count (l : Launch) (D : va_G) (cI cZ cS cJ : ClassId) (hl9 : l.stackTraces = false) (O k g a d : Nat → Nat) (w0 : Int32) (c : Nat → Nat → Nat) (f : Nat → Option Nat) (z : Nat) (V : Nat → Nat → Nat → Int32) (T : Nat → Int32) (n : Nat) (K G : Nat → Nat → Int32) (L : Nat → Int32) (v : Int32) (o : Nat) (ww : Int64) (x : Int32)  : CH (U := Int32 × Int64) l yL_count wsL_count ({ frames := 8, cells := 1, slots := 6, locals := 125 }) D (tyL cI cZ cS cJ) [.ref (O 0), .int x, .ref o] (List.flatten [arJ cJ o ww, clP cI cZ cS O k g a d w0 c f z V T n K G L v]) (fun u => LkJ (k1 (inR x 0 14)) u.1 (cntS (V 0) z x.toNatClampNeg).toInt64 u.2) (fun u => some (.int u.1)) (fun u => List.flatten [arJ cJ o u.2, clP cI cZ cS O k g a d w0 c f z V T n K G L v]) 1 6 := by
  by_cases q1 : inR x 0 14
  · skip
    obtain ⟨w, hw9, rfl⟩ := num_of (hi := 14) (n := 14) (by decide) q1
    have e0 : (nI w).toNatClampNeg = w := nI_clamp (by omega)
    exact CH_imp (h_countN l D cI cZ cS cJ hl9 O k g a d w0 c f z V T n K G L v o ww w (by omega)) (fun _ _ => ⟨(0, (cntS (V 0) z w).toInt64), by show LkJ _ _ _ _ ; rw [e0]; exact LkJ_ok (k1_0 q1) rfl rfl, rfl, rfl⟩)
  · skip
    exact CH_imp (h_countTA l D cI cZ cS cJ hl9 O k g a d w0 c f z V T n K G L v o ww x q1) (fun _ _ => ⟨(1, ww), by show LkJ _ _ _ _ ; exact LkJ_bad (k1_1 q1) z9_1, rfl, rfl⟩)

set_option maxHeartbeats 4000000 in
theorem h_stopped (l : Launch) (D : va_G) (cI cZ cS cJ : ClassId) (hl9 : l.stackTraces = false) (O k g a d : Nat → Nat) (w0 : Int32) (c : Nat → Nat → Nat) (f : Nat → Option Nat) (z : Nat) (V : Nat → Nat → Nat → Int32) (T : Nat → Int32) (n : Nat) (K G : Nat → Nat → Int32) (L : Nat → Int32) (v : Int32) (o : Nat) (ww : Int64) (x : Int32)  : CH (U := Int32 × Int64) l yL_stopped wsL_stopped ({ frames := 8, cells := 1, slots := 6, locals := 125 }) D (tyL cI cZ cS cJ) [.ref (O 0), .int x, .ref o] (List.flatten [arJ cJ o ww, clP cI cZ cS O k g a d w0 c f z V T n K G L v]) (fun u => LkJ (k1 (inR x 0 1)) u.1 (stoS (V 0) x.toNatClampNeg).toInt64 u.2) (fun u => some (.int u.1)) (fun u => List.flatten [arJ cJ o u.2, clP cI cZ cS O k g a d w0 c f z V T n K G L v]) 1 6 := by
  by_cases q1 : inR x 0 1
  · skip
    obtain ⟨w, hw9, rfl⟩ := num_of (hi := 1) (n := 1) (by decide) q1
    have e0 : (nI w).toNatClampNeg = w := nI_clamp (by omega)
    exact CH_imp (h_stoppedN l D cI cZ cS cJ hl9 O k g a d w0 c f z V T n K G L v o ww w (by omega)) (fun _ _ => ⟨(0, (stoS (V 0) w).toInt64), by show LkJ _ _ _ _ ; rw [e0]; exact LkJ_ok (k1_0 q1) rfl rfl, rfl, rfl⟩)
  · skip
    exact CH_imp (h_stoppedTA l D cI cZ cS cJ hl9 O k g a d w0 c f z V T n K G L v o ww x q1) (fun _ _ => ⟨(1, ww), by show LkJ _ _ _ _ ; exact LkJ_bad (k1_1 q1) z9_1, rfl, rfl⟩)

set_option maxHeartbeats 4000000 in
theorem h_ifDropped (l : Launch) (D : va_G) (cI cZ cS cJ : ClassId) (hl9 : l.stackTraces = false) (O k g a d : Nat → Nat) (w0 : Int32) (c : Nat → Nat → Nat) (f : Nat → Option Nat) (z : Nat) (V : Nat → Nat → Nat → Int32) (T : Nat → Int32) (n : Nat) (K G : Nat → Nat → Int32) (L : Nat → Int32) (v : Int32) (o : Nat) (ww : Int64) (x : Int32) (y : Int32) (hO : OK (V 0)) : CH (U := Int32 × (Nat → Nat → Int32) × Int64) l yL_ifDropped wsL_ifDropped ({ frames := 8, cells := 1, slots := 6, locals := 152 }) D (tyL cI cZ cS cJ) [.ref (O 0), .int x, .int y, .ref o] (List.flatten [arJ cJ o ww, clP cI cZ cS O k g a d w0 c f z V T n K G L v]) (fun u => LkJ (k2 (isB x) (inR y 0 2)) u.1 (drpS (V 0) x.toNatClampNeg y.toNatClampNeg).toInt64 u.2.2) (fun u => some (.int u.1)) (fun u => List.flatten [arJ cJ o u.2.2, clP cI cZ cS O k g a d w0 c f z V T n u.2.1 G L v]) 1 6 := by
  by_cases q1 : isB x
  · skip
    obtain ⟨b, hb8, rfl⟩ := bal_of q1
    have e0 : (nI b).toNatClampNeg = b := nI_clamp (by omega)
    by_cases q2 : inR y 0 2
    · skip
      obtain ⟨w, hw9, rfl⟩ := num_of (hi := 2) (n := 2) (by decide) q2
      have e1 : (nI w).toNatClampNeg = w := nI_clamp (by omega)
      exact CH_imp (h_ifDroppedN l D cI cZ cS cJ hl9 O k g a d w0 c f z V T n K G L v o ww b w hO hb8 (by omega)) (fun _ _ => ⟨(0, drpK (V 0) K b, (drpS (V 0) b w).toInt64), by show LkJ _ _ _ _ ; rw [e0, e1]; exact LkJ_ok (k2_0 q1 q2) rfl rfl, rfl, rfl⟩)
    · skip
      exact CH_imp (h_ifDroppedTA l D cI cZ cS cJ hl9 O k g a d w0 c f z V T n K G L v o ww b y hb8 q2) (fun _ _ => ⟨(2, K, ww), by show LkJ _ _ _ _ ; exact LkJ_bad (by first | exact k2_2 q1 q2 | (rw [e0]; exact k2_2 q1 q2)) z9_2, rfl, rfl⟩)
  · skip
    exact CH_imp (h_ifDroppedTI l D cI cZ cS cJ hl9 O k g a d w0 c f z V T n K G L v o ww x y q1) (fun _ _ => ⟨(1, K, ww), by show LkJ _ _ _ _ ; exact LkJ_bad (k2_1 q1) z9_1, rfl, rfl⟩)

set_option maxHeartbeats 4000000 in
theorem h_landsIn (l : Launch) (D : va_G) (cI cZ cS cJ : ClassId) (hl9 : l.stackTraces = false) (O k g a d : Nat → Nat) (w0 : Int32) (c : Nat → Nat → Nat) (f : Nat → Option Nat) (z : Nat) (V : Nat → Nat → Nat → Int32) (T : Nat → Int32) (n : Nat) (K G : Nat → Nat → Int32) (L : Nat → Int32) (v : Int32) (o : Nat) (ww : Int64) (x : Int32) (L9 : Nat → Int32) (hO : OK (V 0)) (hL9 : Lnd (V 0) 200 = L9) : CH (U := Int32 × (Nat → Nat → Int32) × (Nat → Int32) × Int32 × Int64) l yL_landsIn wsL_landsIn ({ frames := 8, cells := 1, slots := 6, locals := 157 }) D (tyL cI cZ cS cJ) [.ref (O 0), .int x, .ref o] (List.flatten [arJ cJ o ww, clP cI cZ cS O k g a d w0 c f z V T n K G L v]) (fun u => LkJ (k1 (isB x)) u.1 (L9 x.toNatClampNeg).toInt64 u.2.2.2.2) (fun u => some (.int u.1)) (fun u => List.flatten [arJ cJ o u.2.2.2.2, clP cI cZ cS O k g a d w0 c f z V T n K u.2.1 u.2.2.1 u.2.2.2.1]) 1 6 := by
  by_cases q1 : isB x
  · obtain ⟨b, hb8, rfl⟩ := bal_of q1
    have e0 : (nI b).toNatClampNeg = b := nI_clamp (by omega)
    exact CH_imp (h_landsInN l D cI cZ cS cJ hl9 O k g a d w0 c f z V T n K G L v o ww b L9 hO hb8 hL9) (fun u _ => ⟨(0, u.1, u.2.1, u.2.2, (L9 b).toInt64), by show LkJ _ _ _ _; rw [e0]; exact LkJ_ok (k1_0 q1) rfl rfl, rfl, rfl⟩)
  · exact CH_imp (h_landsInTI l D cI cZ cS cJ hl9 O k g a d w0 c f z V T n K G L v o ww x q1) (fun _ _ => ⟨(1, G, L, v, ww), by show LkJ _ _ _ _; exact LkJ_bad (k1_1 q1) z9_1, rfl, rfl⟩)

set_option maxHeartbeats 4000000 in
theorem h_why (l : Launch) (D : va_G) (cI cZ cS cJ : ClassId) (hl9 : l.stackTraces = false) (O k g a d : Nat → Nat) (w0 : Int32) (c : Nat → Nat → Nat) (f : Nat → Option Nat) (z : Nat) (V : Nat → Nat → Nat → Int32) (T : Nat → Int32) (n : Nat) (K G : Nat → Nat → Int32) (L : Nat → Int32) (v : Int32) (o : Nat) (ww : Int64) (x : Int32) (y : Int32) : CH (U := Int32 × Int64) l yL_why wsL_why ({ frames := 8, cells := 1, slots := 6, locals := 126 }) D (tyL cI cZ cS cJ) [.ref (O 0), .int x, .int y, .ref o] (List.flatten [arJ cJ o ww, clP cI cZ cS O k g a d w0 c f z V T n K G L v]) (fun u => LkJ (k2 (isB x ∧ (isR x ∨ ¬ inR y 4 5)) (inR y 0 5)) u.1 (whyS (V 0) x.toNatClampNeg y.toNatClampNeg).toInt64 u.2) (fun u => some (.int u.1)) (fun u => List.flatten [arJ cJ o u.2, clP cI cZ cS O k g a d w0 c f z V T n K G L v]) 1 6 := by
  by_cases q1 : isB x
  · obtain ⟨b, hb8, rfl⟩ := bal_of q1
    have e0 : (nI b).toNatClampNeg = b := nI_clamp (by omega)
    by_cases q2 : isR (nI b) ∨ ¬ inR y 4 5
    · by_cases q3 : inR y 0 5
      · obtain ⟨w, hw9, rfl⟩ := num_of (hi := 5) (n := 5) (by decide) q3
        have e1 : (nI w).toNatClampNeg = w := nI_clamp (by omega)
        have h7 : 4 ≤ w → b < 7 := fun h4 => by
          rcases q2 with h | h
          · obtain ⟨r, hr, er⟩ := rib_of h
            have := congrArg Int32.toNatClampNeg er
            rw [e0, nI_clamp (by omega)] at this
            omega
          · exact absurd (show inR (nI w) 4 5 from ⟨fun h9 => absurd ((nI_ltI (a := w) (b := 4) (by omega) (by omega)).mp h9) (by omega), fun h9 => absurd ((nI_ltI (a := 5) (b := w) (by omega) (by omega)).mp h9) (by omega)⟩) h
        exact CH_imp (h_whyN l D cI cZ cS cJ hl9 O k g a d w0 c f z V T n K G L v o ww b w hb8 h7 (by omega)) (fun _ _ => ⟨(0, (whyS (V 0) b w).toInt64), by show LkJ _ _ _ _; rw [e0, e1]; exact LkJ_ok (k2_0 ⟨q1, q2⟩ q3) rfl rfl, rfl, rfl⟩)
      · exact CH_imp (h_whyTA l D cI cZ cS cJ hl9 O k g a d w0 c f z V T n K G L v o ww b y hb8 q3) (fun _ _ => ⟨(2, ww), by show LkJ _ _ _ _; exact LkJ_bad (k2_2 ⟨q1, q2⟩ q3) z9_2, rfl, rfl⟩)
    · have hR : ¬ isR (nI b) := fun h => q2 (Or.inl h)
      have h45 : inR y 4 5 := Classical.byContradiction fun h => q2 (Or.inr h)
      have eb : b = 7 := Classical.byContradiction fun h => hR (isR_nI (by omega))
      subst eb
      obtain ⟨w, hw9, rfl⟩ := num_of (hi := 5) (n := 5) (by decide) (show inR y 0 5 from ⟨fun h9 => h45.1 (Int32.lt_trans h9 (by decide)), h45.2⟩)
      rcases (show w = 4 ∨ w = 5 from by
        have := h45.1
        have h9 : ¬ w < 4 := fun h9 => this ((nI_ltI (a := w) (b := 4) (by omega) (by omega)).mpr h9)
        omega) with rfl | rfl
      · exact CH_imp (h_whyTIR4 l D cI cZ cS cJ hl9 O k g a d w0 c f z V T n K G L v o ww) (fun _ _ => ⟨(1, ww), by show LkJ _ _ _ _; exact LkJ_bad (k2_1 (fun h => q2 h.2)) z9_1, rfl, rfl⟩)
      · exact CH_imp (h_whyTIR5 l D cI cZ cS cJ hl9 O k g a d w0 c f z V T n K G L v o ww) (fun _ _ => ⟨(1, ww), by show LkJ _ _ _ _; exact LkJ_bad (k2_1 (fun h => q2 h.2)) z9_1, rfl, rfl⟩)
  · exact CH_imp (h_whyTI l D cI cZ cS cJ hl9 O k g a d w0 c f z V T n K G L v o ww x y q1) (fun _ _ => ⟨(1, ww), by show LkJ _ _ _ _; exact LkJ_bad (k2_1 (fun h => q1 h.1)) z9_1, rfl, rfl⟩)

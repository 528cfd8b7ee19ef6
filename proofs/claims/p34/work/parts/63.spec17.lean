/-! floats -/
def vfc (r : UInt32) : Bool := decide (r &&& 0x7fffffff ≤ 0x7f800000)
theorem vfc_n {r : UInt32} (h : vfc r = true) : vf_n32 r := of_decide_eq_true (p := r &&& 0x7fffffff ≤ 0x7f800000) h
abbrev f23 : UInt32 := 1258291200
/-- doubled while below 1 -/
def fbR : Nat → UInt32 → UInt32
  | 0, r => r
  | f + 1, r => if 0 ≤ Op.cmpValue (FP.fcmp r FP.fconst1) CmpOp.g then r else fbR f (FP.fmul r FP.fconst2)
def fbN : Nat → UInt32 → Nat
  | 0, _ => 0
  | f + 1, r => if 0 ≤ Op.cmpValue (FP.fcmp r FP.fconst1) CmpOp.g then 0 else fbN f (FP.fmul r FP.fconst2) + 1
def fbO : Nat → UInt32 → Bool
  | 0, _ => false
  | f + 1, r => if 0 ≤ Op.cmpValue (FP.fcmp r FP.fconst1) CmpOp.g then true else vfc (FP.fmul r FP.fconst2) && fbO f (FP.fmul r FP.fconst2)
def okF (v : UInt32) : Bool := decide (Op.cmpValue (FP.fcmp v FP.fconst0) CmpOp.l = 0 ∧ Op.cmpValue (FP.fcmp v FP.fconst0) CmpOp.g = 0) || (decide (0 < Op.cmpValue (FP.fcmp v FP.fconst0) CmpOp.l ∧ 0 < Op.cmpValue (FP.fcmp v FP.fconst0) CmpOp.g) && (fbO 120 v && (vfc (FP.fsub (fbR 120 v) FP.fconst1) && vfc (FP.fmul (FP.fsub (fbR 120 v) FP.fconst1) f23))))
def bitF (v : UInt32) : Int32 := if Op.cmpValue (FP.fcmp v FP.fconst0) CmpOp.l = 0 then 0 else nI ((127 - fbN 120 v) * 8388608) + FP.f2i (FP.fmul (FP.fsub (fbR 120 v) FP.fconst1) f23)
/-- the lost share -/
def lsF (S : Nat → Nat → Int32) : UInt32 := FP.fdiv (FP.i2f (S 12 2 + S 12 3)) (FP.i2f (480 + S 12 1))
theorem okD_y {v : UInt64} (h : okD v = true) (c : ¬ Op.cmpValue (FP.dcmp v FP.dconst0) CmpOp.l = 0) : hvO 14 v = true ∧ dbO 12 (hvR 14 v) = true ∧ vf_n64 (FP.dsub (bdR v) FP.dconst1) ∧ vf_n64 (FP.dmul (FP.dsub (bdR v) FP.dconst1) d52) ∧ ¬ Op.cmpValue (FP.dcmp v FP.dconst0) CmpOp.g ≤ 0 := by
  unfold okD at h
  rw [Bool.or_eq_true, Bool.and_eq_true, Bool.and_eq_true, Bool.and_eq_true, Bool.and_eq_true] at h
  rcases h with h | ⟨h0, h1, h2, h3, h4⟩
  · exact absurd (of_decide_eq_true h).1 c
  · exact ⟨h1, h2, vfb_n h3, vfb_n h4, Int32.not_le.mpr (of_decide_eq_true h0).2⟩
theorem okD_z {v : UInt64} (h : okD v = true) : Op.cmpValue (FP.dcmp v FP.dconst0) CmpOp.g ≤ 0 ↔ Op.cmpValue (FP.dcmp v FP.dconst0) CmpOp.l = 0 := by
  constructor
  · intro q
    by_cases c : Op.cmpValue (FP.dcmp v FP.dconst0) CmpOp.l = 0
    · exact c
    · exact absurd q (okD_y h c).2.2.2.2
  · intro q
    unfold okD at h
    rw [Bool.or_eq_true, Bool.and_eq_true] at h
    rcases h with h | ⟨h0, -⟩
    · rw [(of_decide_eq_true h).2]; decide
    · have := (of_decide_eq_true h0).1
      rw [q] at this
      exact absurd this (by decide)
theorem okF_y {v : UInt32} (h : okF v = true) (c : ¬ Op.cmpValue (FP.fcmp v FP.fconst0) CmpOp.l = 0) : fbO 120 v = true ∧ vf_n32 (FP.fsub (fbR 120 v) FP.fconst1) ∧ vf_n32 (FP.fmul (FP.fsub (fbR 120 v) FP.fconst1) f23) ∧ ¬ Op.cmpValue (FP.fcmp v FP.fconst0) CmpOp.g ≤ 0 := by
  unfold okF at h
  rw [Bool.or_eq_true, Bool.and_eq_true, Bool.and_eq_true, Bool.and_eq_true] at h
  rcases h with h | ⟨h0, h1, h2, h3⟩
  · exact absurd (of_decide_eq_true h).1 c
  · exact ⟨h1, vfc_n h2, vfc_n h3, Int32.not_le.mpr (of_decide_eq_true h0).2⟩
theorem okF_z {v : UInt32} (h : okF v = true) : Op.cmpValue (FP.fcmp v FP.fconst0) CmpOp.g ≤ 0 ↔ Op.cmpValue (FP.fcmp v FP.fconst0) CmpOp.l = 0 := by
  constructor
  · intro q
    by_cases c : Op.cmpValue (FP.fcmp v FP.fconst0) CmpOp.l = 0
    · exact c
    · exact absurd q (okF_y h c).2.2.2
  · intro q
    unfold okF at h
    rw [Bool.or_eq_true, Bool.and_eq_true] at h
    rcases h with h | ⟨h0, -⟩
    · rw [(of_decide_eq_true h).2]; decide
    · have := (of_decide_eq_true h0).1
      rw [q] at this
      exact absurd this (by decide)
theorem hv_u {f : Nat} {r : UInt64} (h : hvO f r = true) : 1 ≤ f ∧ (Op.cmpValue (FP.dcmp r d2c) CmpOp.l < 0 → hvR f r = r ∧ hvN f r = 0) ∧ (¬ Op.cmpValue (FP.dcmp r d2c) CmpOp.l < 0 → vf_n64 (FP.ddiv r d2c) ∧ hvO (f - 1) (FP.ddiv r d2c) = true ∧ hvR f r = hvR (f - 1) (FP.ddiv r d2c) ∧ hvN f r = hvN (f - 1) (FP.ddiv r d2c) + 1) := by
  cases f with
  | zero => exact Bool.noConfusion (show false = true from h)
  | succ f =>
    refine ⟨by omega, fun c => ⟨if_pos c, if_pos c⟩, fun c => ?_⟩
    have k : (vfb (FP.ddiv r d2c) && hvO f (FP.ddiv r d2c)) = true := (if_neg c).symm.trans h
    rw [Bool.and_eq_true] at k
    exact ⟨vfb_n k.1, k.2, if_neg c, if_neg c⟩
theorem db_u {f : Nat} {r : UInt64} (h : dbO f r = true) : 1 ≤ f ∧ (0 ≤ Op.cmpValue (FP.dcmp r FP.dconst1) CmpOp.g → dbR f r = r ∧ dbN f r = 0) ∧ (¬ 0 ≤ Op.cmpValue (FP.dcmp r FP.dconst1) CmpOp.g → vf_n64 (FP.dmul r d2c) ∧ dbO (f - 1) (FP.dmul r d2c) = true ∧ dbR f r = dbR (f - 1) (FP.dmul r d2c) ∧ dbN f r = dbN (f - 1) (FP.dmul r d2c) + 1) := by
  cases f with
  | zero => exact Bool.noConfusion (show false = true from h)
  | succ f =>
    refine ⟨by omega, fun c => ⟨if_pos c, if_pos c⟩, fun c => ?_⟩
    have k : (vfb (FP.dmul r d2c) && dbO f (FP.dmul r d2c)) = true := (if_neg c).symm.trans h
    rw [Bool.and_eq_true] at k
    exact ⟨vfb_n k.1, k.2, if_neg c, if_neg c⟩
theorem fb_u {f : Nat} {r : UInt32} (h : fbO f r = true) : 1 ≤ f ∧ (0 ≤ Op.cmpValue (FP.fcmp r FP.fconst1) CmpOp.g → fbR f r = r ∧ fbN f r = 0) ∧ (¬ 0 ≤ Op.cmpValue (FP.fcmp r FP.fconst1) CmpOp.g → vf_n32 (FP.fmul r FP.fconst2) ∧ fbO (f - 1) (FP.fmul r FP.fconst2) = true ∧ fbR f r = fbR (f - 1) (FP.fmul r FP.fconst2) ∧ fbN f r = fbN (f - 1) (FP.fmul r FP.fconst2) + 1) := by
  cases f with
  | zero => exact Bool.noConfusion (show false = true from h)
  | succ f =>
    refine ⟨by omega, fun c => ⟨if_pos c, if_pos c⟩, fun c => ?_⟩
    have k : (vfc (FP.fmul r FP.fconst2) && fbO f (FP.fmul r FP.fconst2)) = true := (if_neg c).symm.trans h
    rw [Bool.and_eq_true] at k
    exact ⟨vfc_n k.1, k.2, if_neg c, if_neg c⟩
theorem hvN_le : ∀ (f : Nat) (r : UInt64), hvN f r ≤ f
  | 0, _ => Nat.le_refl _
  | f + 1, r => by
    unfold hvN
    split
    · omega
    · have := hvN_le f (FP.ddiv r d2c)
      omega
theorem dbN_le : ∀ (f : Nat) (r : UInt64), dbN f r ≤ f
  | 0, _ => Nat.le_refl _
  | f + 1, r => by
    unfold dbN
    split
    · omega
    · have := dbN_le f (FP.dmul r d2c)
      omega
theorem fbN_le : ∀ (f : Nat) (r : UInt32), fbN f r ≤ f
  | 0, _ => Nat.le_refl _
  | f + 1, r => by
    unfold fbN
    split
    · omega
    · have := fbN_le f (FP.fmul r FP.fconst2)
      omega
theorem hsm_in {S : Nat → Nat → Int32} (h : GB S) : 0 ≤ (hsm S).toInt ∧ (hsm S).toInt ≤ 7992 := sm_in (fun _ hj => ht_in h hj)
/-- hashing -/
def hm (f : Nat → Int32) : Nat → Int64 → Int64
  | 0, h => h
  | n + 1, h => 31 * hm f n h + (f n).toInt64
def rowB (S : Nat → Nat → Int32) (k : Nat) (h : Int64) : Int64 := 31 * hm (drpS S k) 3 (hm (whyS S k) 4 (hm (balS S k) 12 h)) + (Lnd S 200 k).toInt64
def rowsB (S : Nat → Nat → Int32) : Nat → Int64 → Int64
  | 0, h => h
  | k + 1, h => rowB S k (rowsB S k h)
def rowR (S : Nat → Nat → Int32) (r : Nat) (h : Int64) : Int64 := 31 * (31 * hm (ribS S r) 5 h + (whyS S r 4).toInt64) + (whyS S r 5).toInt64
def rowsR (S : Nat → Nat → Int32) : Nat → Int64 → Int64
  | 0, h => h
  | k + 1, h => rowR S k (rowsR S k h)
def ntq (S : Nat → Nat → Int32) (k : Nat) : Int32 := S (7 + k % 3) (k / 3)
theorem enc_nq (B : Nat → Nat → Nat → Int32) {k : Nat} (h : k < 60) : enc B (70 + k) = ntq (B 0) k := by
  have e : 70 + k = 70 + 3 * (k / 3) + k % 3 := by omega
  rw [e, enc_n B (by omega) (by omega)]
  rfl
def gd3 (S : Nat → Nat → Int32) (z y : Nat) : Int64 := hm (ntq S) (3 * y) (rowsR S 7 (rowsB S 8 (hm (cntS S z) 15 3821)))
def gd5 (S : Nat → Nat → Int32) (z y : Nat) : Int64 := 31 * (31 * (31 * (31 * gd3 S z y + (S 12 6).toInt64) + (S 12 7).toInt64) + (Fst S 200).toInt64) + ((bb S 8).1).toInt64
def gd6 (S : Nat → Nat → Int32) (z y : Nat) : Int64 := 31 * (31 * gd5 S z y + bitD (mnD (hsm S))) + (bitF (lsF S)).toInt64
def dgS (S : Nat → Nat → Int32) (z y n : Nat) (T : Nat → Int32) (kp : Int32) : Int64 := hm T n (31 * (31 * gd6 S z y + (if kp = 0 then 0 else 1)) + (nI n).toInt64)
theorem lv_reg {ls : Array Slot} {nL : Nat} {lv lv' : List (Nat × Value)} (h : lv_has ls nL lv) (k : Nat) {i : Nat} {x y : Value} (hk : lv[k]? = some (i, x)) (e : x = y) (hl : lv.set k (i, y) = lv') : lv_has ls nL lv' := by
  subst e
  have e2 : lv.set k (i, x) = lv := by
    have hlt := (List.getElem?_eq_some_iff.mp hk).1
    apply List.ext_getElem?
    intro j
    by_cases hj : j = k
    · subst hj; rw [List.getElem?_set_self hlt, hk]
    · rw [List.getElem?_set_ne (Ne.symm hj)]
  rw [← hl, e2]
  exact h
theorem l_inc (x : Int64) (k : Nat) : x + lN k + 1 = x + lN (k + 1) := by
  rw [Int64.add_assoc, lN_1]
theorem l_dec (x : Int64) (k : Nat) : x - lN k - 1 = x - lN (k + 1) := by
  rw [← lN_1, Int64.sub_eq_add_neg, Int64.sub_eq_add_neg, Int64.sub_eq_add_neg, Int64.neg_add, Int64.add_assoc, Int64.sub_eq_add_neg (-lN k) 1]
theorem l_0 (x : Int64) : x = x + lN 0 := (Int64.add_zero x).symm
theorem l_00 (x : Int64) : x = x - lN 0 := by
  rw [Int64.sub_eq_add_neg]
  exact (Int64.add_zero x).symm
theorem hv_er {f : Nat} {r X : UInt64} (h : hvO f r = true) (e : hvR f r = X) (c : Op.cmpValue (FP.dcmp r d2c) CmpOp.l < 0) : X = r := e.symm.trans ((hv_u h).2.1 c).1
theorem hv_ek {f k N : Nat} {r : UInt64} (h : hvO f r = true) (e : hvN f r + k = N) (c : Op.cmpValue (FP.dcmp r d2c) CmpOp.l < 0) : N = k := by
  have := ((hv_u h).2.1 c).2
  omega
theorem db_er {f : Nat} {r X : UInt64} (h : dbO f r = true) (e : dbR f r = X) (c : 0 ≤ Op.cmpValue (FP.dcmp r FP.dconst1) CmpOp.g) : r = X := ((db_u h).2.1 c).1.symm.trans e
theorem db_ek {f k N : Nat} {r : UInt64} (h : dbO f r = true) (e : dbN f r + k = N) (c : 0 ≤ Op.cmpValue (FP.dcmp r FP.dconst1) CmpOp.g) : k = N := by
  have := ((db_u h).2.1 c).2
  omega
theorem fb_er {f : Nat} {r X : UInt32} (h : fbO f r = true) (e : fbR f r = X) (c : 0 ≤ Op.cmpValue (FP.fcmp r FP.fconst1) CmpOp.g) : r = X := ((fb_u h).2.1 c).1.symm.trans e
theorem fb_ek {f k N : Nat} {r : UInt32} (h : fbO f r = true) (e : fbN f r + k = N) (c : 0 ≤ Op.cmpValue (FP.fcmp r FP.fconst1) CmpOp.g) : k = N := by
  have := ((fb_u h).2.1 c).2
  omega
section BODIESM
variable {l : Launch} {y : MethodName} {wl ws' : List Cond} {rm : Room} {D : va_G} {ty : TY} {as : List Value} {ws wo : va_W} {mc ms : Nat} {cc : ByteArray} {maxL : Nat}
theorem C0_long {r : Int64} (hy : plainName y.cls = true) (hw : wl = Cond.code y cc maxL (some .long) :: ws') (hml : (lg_sl as).length ≤ maxL)
    (body : ∀ (p : Program) (e : Env) (s : State) (m : MethodId) (below : List Frame) (meth : Method) (c : Code) (A : Nat → Prop) (ls : Array Slot) (Q : State → Prop),
      CallFix p m c cc maxL s as.toArray wl y.cls → va_K D vwCl ty s → va_P D vwCl ws s.heap → va_D A ws → va_S A s.heap s.heap [] → (∀ q, s.heap.size ≤ q → A q) → lv_has ls maxL (lv_args 0 as) →
      (∀ (x : Int64) (H : Heap) (locs : List Loc) (pc : Nat) (ls : Array Slot), x = r → va_P D vwCl wo H → va_D A wo → va_S A s.heap H locs → decode cc pc = .ok (.lreturn, 1) → W p l e rm s m as.toArray below meth c H locs mc ms Q (F0 m pc ls [.long x])) →
      W p l e rm s m as.toArray below meth c s.heap [] 0 0 Q (F0 m 0 ls [])) : C0 l y wl rm D ty as ws (some (.long r)) wo mc ms := by
  refine C0_gen hy hw hml ?_
  intro p e s m below meth c A ls Q X hnm hK hP hD hS hA hl hend
  refine body p e s m below meth c A ls Q X hK hP hD hS hA hl ?_
  intro x H locs pc ls hxr hP hD hS hdg
  subst hxr
  exact hend H locs _ hP hD hS (fun Qc free hq hf hr hlk => W.lret (v := _) X.1 X.2.1 hr hq hf hdg hlk)
theorem C0_double {r : UInt64} (hy : plainName y.cls = true) (hw : wl = Cond.code y cc maxL (some .double) :: ws') (hml : (lg_sl as).length ≤ maxL)
    (body : ∀ (p : Program) (e : Env) (s : State) (m : MethodId) (below : List Frame) (meth : Method) (c : Code) (A : Nat → Prop) (ls : Array Slot) (Q : State → Prop),
      CallFix p m c cc maxL s as.toArray wl y.cls → va_K D vwCl ty s → va_P D vwCl ws s.heap → va_D A ws → va_S A s.heap s.heap [] → (∀ q, s.heap.size ≤ q → A q) → lv_has ls maxL (lv_args 0 as) →
      (∀ (x : UInt64) (H : Heap) (locs : List Loc) (pc : Nat) (ls : Array Slot), x = r → va_P D vwCl wo H → va_D A wo → va_S A s.heap H locs → decode cc pc = .ok (.dreturn, 1) → W p l e rm s m as.toArray below meth c H locs mc ms Q (F0 m pc ls [.double x])) →
      W p l e rm s m as.toArray below meth c s.heap [] 0 0 Q (F0 m 0 ls [])) : C0 l y wl rm D ty as ws (some (.double r)) wo mc ms := by
  refine C0_gen hy hw hml ?_
  intro p e s m below meth c A ls Q X hnm hK hP hD hS hA hl hend
  refine body p e s m below meth c A ls Q X hK hP hD hS hA hl ?_
  intro x H locs pc ls hxr hP hD hS hdg
  subst hxr
  exact hend H locs _ hP hD hS (fun Qc free hq hf hr hlk => W.dret (v := _) X.1 X.2.1 hr hq hf hdg hlk)
theorem C0_float {r : UInt32} (hy : plainName y.cls = true) (hw : wl = Cond.code y cc maxL (some .float) :: ws') (hml : (lg_sl as).length ≤ maxL)
    (body : ∀ (p : Program) (e : Env) (s : State) (m : MethodId) (below : List Frame) (meth : Method) (c : Code) (A : Nat → Prop) (ls : Array Slot) (Q : State → Prop),
      CallFix p m c cc maxL s as.toArray wl y.cls → va_K D vwCl ty s → va_P D vwCl ws s.heap → va_D A ws → va_S A s.heap s.heap [] → (∀ q, s.heap.size ≤ q → A q) → lv_has ls maxL (lv_args 0 as) →
      (∀ (x : UInt32) (H : Heap) (locs : List Loc) (pc : Nat) (ls : Array Slot), x = r → va_P D vwCl wo H → va_D A wo → va_S A s.heap H locs → decode cc pc = .ok (.freturn, 1) → W p l e rm s m as.toArray below meth c H locs mc ms Q (F0 m pc ls [.float x])) →
      W p l e rm s m as.toArray below meth c s.heap [] 0 0 Q (F0 m 0 ls [])) : C0 l y wl rm D ty as ws (some (.float r)) wo mc ms := by
  refine C0_gen hy hw hml ?_
  intro p e s m below meth c A ls Q X hnm hK hP hD hS hA hl hend
  refine body p e s m below meth c A ls Q X hK hP hD hS hA hl ?_
  intro x H locs pc ls hxr hP hD hS hdg
  subst hxr
  exact hend H locs _ hP hD hS (fun Qc free hq hf hr hlk => W.fret (v := _) X.1 X.2.1 hr hq hf hdg hlk)
end BODIESM
theorem nk_1 {a b k N : Nat} (h : a = b + 1) (e : a + k = N) : b + (k + 1) = N := by omega
theorem bitD_n {v r : UInt64} {k : Nat} (c : ¬ Op.cmpValue (FP.dcmp v FP.dconst0) CmpOp.l = 0) (hr : r = bdR v) (hk : k = dbN 12 (hvR 14 v)) : (1023 + lN (hvN 14 v) - lN k) * 4503599627370496 + FP.d2l (FP.dmul (FP.dsub r FP.dconst1) 4841369599423283200) = bitD v := by
  subst hr
  subst hk
  unfold bitD
  rw [if_neg c]
theorem bitF_n {v r : UInt32} {k : Nat} (c : ¬ Op.cmpValue (FP.fcmp v FP.fconst0) CmpOp.l = 0) (hr : r = fbR 120 v) (hk : k = fbN 120 v) : nI ((127 - k) * 8388608) + FP.f2i (FP.fmul (FP.fsub r FP.fconst1) 1258291200) = bitF v := by
  subst hr
  subst hk
  unfold bitF
  rw [if_neg c]
section LDCFW
variable {p : Program} {l : Launch} {e : Env} {R : Room} {s : State} {m : MethodId} {args : Array Value} {below : List Frame} {meth : Method} {c : Code} {locs : List Loc} {cells slots : Nat} {H : Heap} {Q : State → Prop} {cc : ByteArray} {pc : Nat} {ls : Array Slot} {rest : List Value}
theorem ldcwF {T : State} (X : Stand p l e R s m args below meth c T locs cells slots) (hexec : p.tables.exec = Jvm.exec) {own : String} {index : Nat} {b : UInt32} (hown : s.vm.findClass own = some m.cls)
    (hconst : (Cond.constantFloat own index b).before args s = true) {g : JFrame} (hg : g.method = m) (hdg : decode c.code g.pc = .ok (.ldc_w index, 3)) :
    ∀ target, Steps p.tables e below (T.setTop { g with pc := g.pc + 3, stack := .float b :: g.stack }) target → Steps p.tables e below (T.setTop g) target := by
  obtain ⟨k, cf, hk, hcf, hcp⟩ := Cond.constantFloat_spec hown hconst
  obtain ⟨k', hk', he⟩ := X.warmed.alike.2.2 _ _ hk
  intro target hrest
  subst hg
  jvm_step X.here [hexec, hdg, ldc_w.wp_float (s := T) (f := g) X.here.top hk' (by rw [he]; exact hcf) hcp]
  exact hrest
theorem lv_ldcfw (hexec : p.tables.exec = Jvm.exec) (hb : c.code = cc) {own : String} {index : Nat} {v : UInt32} (hown : s.vm.findClass own = some m.cls) (hconst : (Jvm.Cond.constantFloat own index v).before args s = true) (hdg : decode cc pc = .ok (.ldc_w index, 3)) (k : W p l e R s m args below meth c H locs cells slots Q (F0 m (pc + 3) ls (.float v :: rest))) : W p l e R s m args below meth c H locs cells slots Q (F0 m pc ls rest) := by
  intro T hT X
  obtain ⟨t, a, b⟩ := k T hT X
  exact ⟨t, ldcwF X hexec hown hconst (g := F0 m pc ls rest) rfl (by rw [hb]; exact hdg) t a, b⟩
end LDCFW
theorem hm_0 (f : Nat → Int32) (h : Int64) : h = hm f 0 h := rfl
theorem hm_s (f : Nat → Int32) (n : Nat) (h : Int64) : 31 * hm f n h + (f n).toInt64 = hm f (n + 1) h := rfl
theorem rowsB_0 (S : Nat → Nat → Int32) (h : Int64) : h = rowsB S 0 h := rfl
theorem rowsB_s (S : Nat → Nat → Int32) (k : Nat) (h : Int64) : 31 * hm (drpS S k) 3 (hm (whyS S k) 4 (hm (balS S k) 12 (rowsB S k h))) + (Lnd S 200 k).toInt64 = rowsB S (k + 1) h := by
  rw [rowsB, rowB]
theorem rowsR_0 (S : Nat → Nat → Int32) (h : Int64) : h = rowsR S 0 h := rfl
theorem rowsR_s (S : Nat → Nat → Int32) (r : Nat) (h : Int64) : 31 * (31 * hm (ribS S r) 5 (rowsR S r h) + (whyS S r 4).toInt64) + (whyS S r 5).toInt64 = rowsR S (r + 1) h := by
  rw [rowsR, rowR]

/-! calls that end by a throw: what of the tables is no word of a method's own list, the two static fields of Throwable, the contract, its rows -/
abbrev xcI : String := "java/lang/IndexOutOfBoundsException"
abbrev xcA : String := "java/lang/IllegalArgumentException"
abbrev xcS : String := "java/lang/IllegalStateException"
abbrev xcN : List String := ["java/lang/RuntimeException", "java/lang/Exception"]
theorem Nw_warmD {y : MethodName} {s U : State} (hW : s.WarmedH U.vm) (hZ : va_Nw (.declares y) s) : va_Nw (.declares y) U := va_tabs rfl (rfl : (s.setVm U.vm).vm = U.vm) (by rw [Cond.declares_setVm hW.alike]; exact hZ)
/-- the words that the tables alone decide -/
def ZW (U : State) : Prop := (va_Nw (.declares (Bundle.initS "java/lang/RuntimeException")) U ∧ va_Nw (.declares (Bundle.initS "java/lang/Exception")) U ∧ va_Nw (.declares (Bundle.initS Bundle.tN)) U) ∧ (va_Nw (.castable xcI xcI) U ∧ va_Nw (.castable xcA xcA) U ∧ va_Nw (.castable xcS xcS) U) ∧ (va_Nc xcA xcI U ∧ va_Nc xcS xcI U ∧ va_Nc xcS xcA U)
theorem ZW.warm {s U : State} (hW : s.WarmedH U.vm) (h : ZW s) : ZW U := by
  obtain ⟨⟨h1, h2, h3⟩, ⟨h4, h5, h6⟩, ⟨h7, h8, h9⟩⟩ := h
  exact ⟨⟨Nw_warmD hW h1, Nw_warmD hW h2, Nw_warmD hW h3⟩, ⟨va_Nw.warmC hW h4, va_Nw.warmC hW h5, va_Nw.warmC hW h6⟩, ⟨va_Nc.moved hW.alike h7, va_Nc.moved hW.alike h8, va_Nc.moved hW.alike h9⟩⟩
/-- the texts of the throws -/
def ZS (U : State) : Prop := (∃ a, vk_R RX6 123 "the buffer is full" a U) ∧ (∃ a, vk_R RX6 140 "the buffer is not complete work" a U) ∧ (∃ a, vk_R RX6 160 "there is no snapshot" a U) ∧ (∃ a, vk_R RX6 165 "there is no saved state" a U) ∧ (∃ a, vk_R RX6 197 "the rank is below 0" a U) ∧ (∃ a, vk_R RX6 303 "there is no such balloon" a U) ∧ (∃ a, vk_R RX6 305 "there is no such ribbon" a U) ∧ (∃ a, vk_R RX6 307 "a number is out of range" a U) ∧ (∃ a, vk_R RX6 309 "it can not be done" a U)
theorem ZS.warm {s U : State} (hW : s.WarmedH U.vm) (h : ZS s) : ZS U := by
  obtain ⟨⟨a1, h1⟩, ⟨a2, h2⟩, ⟨a3, h3⟩, ⟨a4, h4⟩, ⟨a5, h5⟩, ⟨a6, h6⟩, ⟨a7, h7⟩, ⟨a8, h8⟩, ⟨a9, h9⟩⟩ := h
  exact ⟨⟨a1, vk_R.warm hW h1⟩, ⟨a2, vk_R.warm hW h2⟩, ⟨a3, vk_R.warm hW h3⟩, ⟨a4, vk_R.warm hW h4⟩, ⟨a5, vk_R.warm hW h5⟩, ⟨a6, vk_R.warm hW h6⟩, ⟨a7, vk_R.warm hW h7⟩, ⟨a8, vk_R.warm hW h8⟩, ⟨a9, vk_R.warm hW h9⟩⟩
/-- .. and the two static fields, in no cell of A -/
def ZF (A : Nat → Prop) (U : State) (H : Heap) : Prop := vx_Zq Bundle.tN "UNASSIGNED_STACK" Bundle.steD A U H ∧ vx_Zq Bundle.tN "SUPPRESSED_SENTINEL" Bundle.listD A U H
def ZX (A : Nat → Prop) (U : State) : Prop := ZW U ∧ ZS U ∧ ZF A U U.heap
theorem ZF.go {A B : Nat → Prop} {s U : State} {H : Heap} (h : ZF A s s.heap) (hW : s.WarmedH U.vm) (hU : U.heap = H) (hS : ∀ q : Nat, q < s.heap.size → ¬ A q → H[q]? = s.heap[q]?) (hAB : ∀ q, B q → A q) : ZF B U U.heap := by
  rw [hU]
  exact ⟨(vx_Zq.moved hW.alike (h.1.kept hS)).narrow hAB, (vx_Zq.moved hW.alike (h.2.kept hS)).narrow hAB⟩
theorem ZX.go {A B : Nat → Prop} {s U : State} {H : Heap} (h : ZX A s) (hW : s.WarmedH U.vm) (hU : U.heap = H) (hS : ∀ q : Nat, q < s.heap.size → ¬ A q → H[q]? = s.heap[q]?) (hAB : ∀ q, B q → A q) : ZX B U := ⟨h.1.warm hW, h.2.1.warm hW, h.2.2.go hW hU hS hAB⟩
theorem ZX_calling {A : Nat → Prop} {U : State} {g : JFrame} {mk : MethodId} {a : Array Value} (h : ZX A U) : ZX A (U.calling g mk a) := ZX.go (H := U.heap) h (State.WarmedH.refl U) rfl (fun _ _ _ => rfl) (fun _ h => h)
theorem Wx_blind (D : va_G) (ty : TY) (sz : Nat) (ws : va_W) (as : List Value) : FrameBlind (va_Pc as (fun S => Wd D ty sz ws S ∧ ZX (va_A ws sz) S)) := fun a U g mk q => by
  obtain ⟨q0, ⟨q1, qP, qK, qD⟩, qZ⟩ := q
  exact ⟨q0, ⟨q1, qP, va_K.moved (u := U) (U := U.calling g mk a) (Vm.Alike.refl U.vm) qK, qD⟩, ZX_calling qZ⟩
/-- the world at a throw: as it was -/
def XT (D : va_G) (ty : TY) (sz : Nat) (ws : va_W) (E0 : String) : String → State → State → Prop := vx_X (S := Unit) (fun _ => True) (fun E _ t => E = E0 ∧ We D ty sz ws ws t) (va_A ws sz)
def QF : Array Value → State → Outcome → State → Prop := fun _ _ _ _ => False
/-- from the cells ws the method throws an E0, and its cells are what they were -/
def CT (l : Launch) (y : MethodName) (wl : List Cond) (rm : Room) (D : va_G) (ty : TY) (as : List Value) (ws : va_W) (E0 : String) : Prop :=
  ∀ sz, vx_Met l y wl rm (va_Pc as (fun S => Wd D ty sz ws S ∧ ZX (va_A ws sz) S)) QF (XT D ty sz ws E0) 1 6 (va_A ws sz)
abbrev QT (below : List Frame) (s : State) (D : va_G) (ty : TY) (as : List Value) (ws : va_W) (E0 : String) : State → Prop := vx_MQ below QF (XT D ty s.heap.size ws E0) as.toArray s 1 6 (va_A ws s.heap.size)
theorem CT_gen {l : Launch} {y : MethodName} {wl ws' : List Cond} {rm : Room} {D : va_G} {ty : TY} {as : List Value} {ws : va_W} {E0 : String} {cc : ByteArray} {maxL : Nat} {ret : Option FieldType} (hy : plainName y.cls = true) (hw : wl = Cond.code y cc maxL ret :: ws') (hml : (lg_sl as).length ≤ maxL)
    (body : ∀ (p : Program) (e : Env) (s : State) (m : MethodId) (below : List Frame) (meth : Method) (c : Code) (ls : Array Slot),
      CallFix p m c cc maxL s as.toArray wl y.cls → va_K D vwCl ty s → va_P D vwCl ws s.heap → va_D (va_A ws s.heap.size) ws → va_S (va_A ws s.heap.size) s.heap s.heap [] → (∀ q, s.heap.size ≤ q → va_A ws s.heap.size q) → lv_has ls maxL (lv_args 0 as) →
      ZX (va_A ws s.heap.size) s → (∀ x ∈ c.exceptionTable.toList, False) → meth.locks = false →
      W p l e rm s m as.toArray below meth c s.heap [] 0 0 (QT below s D ty as ws E0) (F0 m 0 ls [])) : CT l y wl rm D ty as ws E0 := by
  intro sz
  refine vx_ofW (cc := cc) (maxL := maxL) (ret := ret) hy hw ?_
  intro p e s m args below meth c s₁ B hml' ht hv
  obtain ⟨rfl, ⟨hsz, hP, hK, hD0⟩, hZ⟩ := hv
  have hl := lv_entry as (n := maxL) hml
  rw [lg_entry_eq]
  subst hsz
  generalize (lg_sl as ++ List.replicate (maxL - (lg_sl as).length) Slot.unset).toArray = ls at hl ⊢
  exact body p e s m below meth c ls ⟨B.exec, B.bytes, hml', findClass_of_methodNamed B.named, atoms_spec (ws := wl) B.pre⟩ hK hP hD0.self va_S.rf (fun q h => Or.inr h) hl hZ ht B.notSynchronized
section TROWS
variable {p : Program} {l : Launch} {e : Env} {R : Room} {s : State} {m : MethodId} {args : Array Value} {below : List Frame} {meth : Method} {c : Code} {H : Heap} {locs : List Loc} {cells slots : Nat} {Q : State → Prop}
variable {cc bytes : ByteArray} {pc : Nat} {ls : Array Slot} {rest st0 As as : List Value} {D : va_G} {A : Nat → Prop} {b : Nat} {ty : TY} {ws : va_W} {Ws Wc : List va_W} {nL maxL n index : Nat} {Ts wl : List Cond} {own C : String} {y : MethodName} {ret : Option FieldType} {rm : Room} {E0 : String}
theorem stA_id : ∀ (z : List (Nat × va_W)) (ws : List va_W), (∀ x ∈ z, ws[x.1]? = some x.2) → stA ws z = ws := by
  intro z ws h
  have h1 := stA_map (fun x : va_W => x) z ws (fun x hx => ⟨x.2, h x hx, rfl⟩)
  rw [List.map_id', List.map_id'] at h1
  exact h1
/-- not caught: on to the caller -/
theorem T_out {ce : Cell} {q : Addr} (hK : va_K D vwCl ty s) (ht : ∀ x ∈ c.exceptionTable.toList, False) (hlk : meth.locks = false) (hP : va_P D vwCl ws H) (hD : va_D (va_A ws s.heap.size) ws) (hS : va_S (va_A ws s.heap.size) s.heap H locs) (h1 : H[q]? = some ce) (h2 : ce.vm = .none) (h3 : s.vm.findClass E0 = some ce.cls) (hcs : cells ≤ 1 ∧ slots ≤ 6) :
    vx_W p l e R s m as.toArray below meth c H locs cells slots (QT below s D ty as ws E0) (F0 m pc ls rest) q :=
  vx_out (fun x hx => (ht x hx).elim) hlk h1 h2 h3 (fun t ht hW => ⟨(), trivial, ⟨rfl, ⟨by rw [ht]; exact hP, va_K.moved hW hK, hD⟩⟩, hS.F ht⟩) hS.2.2 hcs.1 hcs.2
/-- 'throw new E0("text")' -/
theorem T_thr {text : String} {ik is ic sa : Nat} (X : CallFix p m c cc nL s as.toArray Ts RX6) (hl9 : l.stackTraces = false) (hK : va_K D vwCl ty s) (hZ : ZX (va_A ws s.heap.size) s) (ht : ∀ x ∈ c.exceptionTable.toList, False) (hlk : meth.locks = false) (hP : va_P D vwCl ws H) (hD : va_D (va_A ws s.heap.size) ws) (hS : va_S (va_A ws s.heap.size) s.heap H locs)
    (hcast : va_Nw (.castable E0 E0) s) (hstr : vk_R RX6 is text sa s) (hfit : Bundle.fit E0 = true) (hk : Cond.classLink RX6 ik E0 ∈ Ts) (hini : Cond.initialized E0 ∈ Ts)
    (hg1 : ∀ w ∈ (vx_atS RX6 ic E0 xcN).filter goodWord, w ∈ Ts) (hg2 : ∀ w ∈ (vx_atS RX6 ic E0 xcN).filter (fun w => !goodWord w), w ∈ ([.declares (Bundle.initS "java/lang/RuntimeException"), .declares (Bundle.initS "java/lang/Exception"), .declares (Bundle.initS Bundle.tN), .castable E0 E0] : List Cond)) (hg3 : ∀ w ∈ Cond.classLink RX6 ik E0 :: Cond.initialized E0 :: vx_atS RX6 ic E0 xcN, vx_ot w = true)
    (hsz : ls.size = nL) (d0 : decode cc pc = .ok (.new ik, 3)) (d3 : decode cc (pc + 3) = .ok (.dup, 1)) (d4 : decode cc (pc + 4) = .ok (.ldc is, 2)) (d6 : decode cc (pc + 6) = .ok (.invokespecial ic, 3)) (d9 : decode cc (pc + 9) = .ok (.athrow, 1))
    (hR : 5 < R.frames ∧ (rest.map fun v => v.category).sum + 82 ≤ R.locals ∧ cells + 1 ≤ R.cells ∧ slots + 6 ≤ R.slots) (hcs : cells = 0 ∧ slots = 0) :
    W p l e R s m as.toArray below meth c H locs cells slots (QT below s D ty as ws E0) (F0 m pc ls rest) := by
  obtain ⟨hx, hb, hml, hown, hts⟩ := id X
  obtain ⟨⟨w1, w2, w3⟩, -⟩ := hZ.1
  refine vx_throwS (own := RX6) (names := xcN) hx hb hl9 hown hfit (fun n hn => ?_) (hts _ hk) (hts _ hini) hstr (vx_hat (fun w hw => hts w (hg1 w hw)) hg2 (vx_c (va_Nw.use rfl w1) (vx_c (va_Nw.use rfl w2) (vx_c (va_Nw.use rfl w3) (vx_c (va_Nw.use rfl hcast) vx_n))))) hg3 hZ.2.2.1 hZ.2.2.2 hS (hsz.trans hml.symm) d0 d3 d4 d6 d9 (fun x hx => (ht x hx).elim) hR.1 hR.2.1 hR.2.2.1 hR.2.2.2 hlk (fun t hW h1 h2 => ?_) hS.2.2 (by omega) (by omega)
  · have : (xcN.all fun n => Bundle.fit n) = true := by decide +kernel
    exact List.all_eq_true.mp this n hn
  · exact ⟨(), trivial, ⟨rfl, ⟨fun k q hk => (hP k q hk).kept (h2 q.1 (hP k q hk).lt), va_K.moved hW hK, hD⟩⟩, Nat.le_trans hS.1 h1, fun q hq hA => (h2 q (Nat.lt_of_lt_of_le hq hS.1)).trans (hS.2.1 q hq hA)⟩
/-- .. the text by a wide index -/
theorem T_thrW {text : String} {ik is ic sa : Nat} (X : CallFix p m c cc nL s as.toArray Ts RX6) (hl9 : l.stackTraces = false) (hK : va_K D vwCl ty s) (hZ : ZX (va_A ws s.heap.size) s) (ht : ∀ x ∈ c.exceptionTable.toList, False) (hlk : meth.locks = false) (hP : va_P D vwCl ws H) (hD : va_D (va_A ws s.heap.size) ws) (hS : va_S (va_A ws s.heap.size) s.heap H locs)
    (hcast : va_Nw (.castable E0 E0) s) (hstr : vk_R RX6 is text sa s) (hfit : Bundle.fit E0 = true) (hk : Cond.classLink RX6 ik E0 ∈ Ts) (hini : Cond.initialized E0 ∈ Ts)
    (hg1 : ∀ w ∈ (vx_atS RX6 ic E0 xcN).filter goodWord, w ∈ Ts) (hg2 : ∀ w ∈ (vx_atS RX6 ic E0 xcN).filter (fun w => !goodWord w), w ∈ ([.declares (Bundle.initS "java/lang/RuntimeException"), .declares (Bundle.initS "java/lang/Exception"), .declares (Bundle.initS Bundle.tN), .castable E0 E0] : List Cond)) (hg3 : ∀ w ∈ Cond.classLink RX6 ik E0 :: Cond.initialized E0 :: vx_atS RX6 ic E0 xcN, vx_ot w = true)
    (hsz : ls.size = nL) (d0 : decode cc pc = .ok (.new ik, 3)) (d3 : decode cc (pc + 3) = .ok (.dup, 1)) (d4 : decode cc (pc + 4) = .ok (.ldc_w is, 3)) (d6 : decode cc (pc + 7) = .ok (.invokespecial ic, 3)) (d9 : decode cc (pc + 10) = .ok (.athrow, 1))
    (hR : 5 < R.frames ∧ (rest.map fun v => v.category).sum + 82 ≤ R.locals ∧ cells + 1 ≤ R.cells ∧ slots + 6 ≤ R.slots) (hcs : cells = 0 ∧ slots = 0) :
    W p l e R s m as.toArray below meth c H locs cells slots (QT below s D ty as ws E0) (F0 m pc ls rest) := by
  obtain ⟨hx, hb, hml, hown, hts⟩ := id X
  obtain ⟨⟨w1, w2, w3⟩, -⟩ := hZ.1
  refine vx_throwSW (own := RX6) (names := xcN) hx hb hl9 hown hfit (fun n hn => ?_) (hts _ hk) (hts _ hini) hstr (vx_hat (fun w hw => hts w (hg1 w hw)) hg2 (vx_c (va_Nw.use rfl w1) (vx_c (va_Nw.use rfl w2) (vx_c (va_Nw.use rfl w3) (vx_c (va_Nw.use rfl hcast) vx_n))))) hg3 hZ.2.2.1 hZ.2.2.2 hS (hsz.trans hml.symm) d0 d3 d4 d6 d9 (fun x hx => (ht x hx).elim) hR.1 hR.2.1 hR.2.2.1 hR.2.2.2 hlk (fun t hW h1 h2 => ?_) hS.2.2 (by omega) (by omega)
  · have : (xcN.all fun n => Bundle.fit n) = true := by decide +kernel
    exact List.all_eq_true.mp this n hn
  · exact ⟨(), trivial, ⟨rfl, ⟨fun k q hk => (hP k q hk).kept (h2 q.1 (hP k q hk).lt), va_K.moved hW hK, hD⟩⟩, Nat.le_trans hS.1 h1, fun q hq hA => (h2 q (Nat.lt_of_lt_of_le hq hS.1)).trans (hS.2.1 q hq hA)⟩
/-- behind a call that has thrown -/
theorem call_genT (hr : vx_Run p l e R s m args below meth c H locs cells slots 1 6 (F0 m pc ls st0) rest (fun _ _ _ => False) (XT D ty H.size Wc.flatten E0) (va_A Wc.flatten H.size)) (hP : va_P D vwCl Ws.flatten H) (hD : va_D A Ws.flatten) (hS : va_S A s.heap H locs) (hA : ∀ q, s.heap.size ≤ q → A q)
    (is : List Nat) (hC : is.map (fun i => Ws[i]?) = Wc.map some)
    (kk : ∀ (H : Heap) (locs : List Loc) (q9 : Addr) (ce : Cell), va_P D vwCl Ws.flatten H → va_S A s.heap H locs → H[q9]? = some ce → ce.vm = .none → s.vm.findClass E0 = some ce.cls → vx_W p l e R s m args below meth c H locs (cells + 1) (slots + 6) Q (F0 m pc ls rest) q9) : W p l e R s m args below meth c H locs cells slots Q (F0 m pc ls st0) := by
  have hF := freeF (Wc := Wc) hD hS hA is hC
  intro T hT X
  rcases hr T hT X with ⟨v, st₀, t, T', L, h0, X', hL, e1, e2, hq, st⟩ | ⟨q, st₀, t, T', L, E, ce, h0, X', hL, e1, e2, ⟨u, -, ⟨rfl, hP1, hK1, hD1⟩, hz, hk⟩, hce, hcv, hcl, st⟩
  · exact hq.elim
  · rw [h0] at hz hk
    rw [← e1] at hz hk hP1 hce
    have hl9 : is.length = Wc.length := by
      have := congrArg List.length hC
      rwa [List.length_map, List.length_map] at this
    have hPn : va_P D vwCl Ws.flatten T'.heap := by
      have h9 := P_mergeF hP hD is hC hl9 hk hP1
      rw [stA_id _ _ (fun x hx => ?_)] at h9
      · exact h9
      · obtain ⟨j, hj⟩ := List.getElem?_of_mem hx
        obtain ⟨h5, h6⟩ := List.getElem?_zip_eq_some.mp hj
        obtain ⟨i, h7, h8⟩ := pick_at hC h6
        cases h5.symm.trans h7
        exact h8
    obtain ⟨t2, a1, b1⟩ := kk T'.heap (locs ++ L) q ce hPn ⟨Nat.le_trans hS.1 hz, fun q h1 h2 => by
        rw [hk q (Nat.lt_of_lt_of_le h1 hS.1) (fun z => h2 (hF q z))]; exact hS.2.1 q h1 h2, fun q hq => by
        rcases List.mem_append.mp hq with h | h
        · exact hS.2.2 q h
        · exact hF _ (hL q h)⟩ hce hcv hcl T' rfl X'
    exact ⟨t2, st.trans a1, b1⟩
theorem kcallVT (X : CallFix p m c cc nL s args Ts own) (hZ : ZX A s) (hc : CT l y wl rm D ty (.ref b :: As) Wc.flatten E0) (cw : CallW R s args own C index y bytes maxL ret wl rm 1 6 n)
    (hK : va_K D vwCl ty s) (hP : va_P D vwCl Ws.flatten H) (hD : va_D A Ws.flatten) (hS : va_S A s.heap H locs) (hA : ∀ q, s.heap.size ≤ q → A q)
    (is : List Nat) (hC : is.map (fun i => Ws[i]?) = Wc.map some) (hnd : va_nd is = true)
    (q0 ci : Nat) {fs : List Value} {T : u_T} {N : Nat} (he : (Ws.flatten)[q0]? = some (b, .inr (ci, fs))) (hcl : vwCl[ci]? = some (C, T, N))
    (hn : As.length = n) (hsz : ls.size = nL) (hst : st0 = As.reverse ++ .ref b :: rest) (hW : (rest.map fun v => v.category).sum ≤ 8) (hdg : decode cc pc = .ok (.invokevirtual index, 3)) (hf : cells + 1 ≤ R.cells ∧ slots + 6 ≤ R.slots)
    (kk : ∀ (H : Heap) (locs : List Loc) (q9 : Addr) (ce : Cell), va_P D vwCl Ws.flatten H → va_S A s.heap H locs → H[q9]? = some ce → ce.vm = .none → s.vm.findClass E0 = some ce.cls → vx_W p l e R s m args below meth c H locs (cells + 1) (slots + 6) Q (F0 m pc ls rest) q9) : W p l e R s m args below meth c H locs cells slots Q (F0 m pc ls st0) :=
  call_genT (vx_runV (As := As) (rest := rest) (b := b) X (hc H.size) cw ⟨Wx_blind D ty H.size Wc.flatten _, va_recv (q := (C, T, N)) hK hP hcl he, fun U hU hW => ⟨rfl, ⟨by rw [hU], by rw [hU]; exact P_subF hP is hC, va_K.moved hW.alike hK, (D_subF hD is hnd hC).weaken (fun _ _ _ _ => trivial)⟩, hZ.go hW hU hS.2.1 (freeF (Wc := Wc) hD hS hA is hC)⟩⟩ rfl hn hsz hst (lv_room hW) hdg hf) hP hD hS hA is hC kk
theorem kcallST (X : CallFix p m c cc nL s args Ts own) (hZ : ZX A s) (hc : CT l y wl rm D ty As Wc.flatten E0) (cw : CallB R s args own index y bytes maxL ret wl rm 1 6 n ∧ (Cond.static y).before args s = true)
    (hK : va_K D vwCl ty s) (hP : va_P D vwCl Ws.flatten H) (hD : va_D A Ws.flatten) (hS : va_S A s.heap H locs) (hA : ∀ q, s.heap.size ≤ q → A q)
    (is : List Nat) (hC : is.map (fun i => Ws[i]?) = Wc.map some) (hnd : va_nd is = true)
    (hn : As.length = n) (hsz : ls.size = nL) (hst : st0 = As.reverse ++ rest) (hW : (rest.map fun v => v.category).sum ≤ 8) (hdg : decode cc pc = .ok (.invokestatic index, 3)) (hf : cells + 1 ≤ R.cells ∧ slots + 6 ≤ R.slots)
    (kk : ∀ (H : Heap) (locs : List Loc) (q9 : Addr) (ce : Cell), va_P D vwCl Ws.flatten H → va_S A s.heap H locs → H[q9]? = some ce → ce.vm = .none → s.vm.findClass E0 = some ce.cls → vx_W p l e R s m args below meth c H locs (cells + 1) (slots + 6) Q (F0 m pc ls rest) q9) : W p l e R s m args below meth c H locs cells slots Q (F0 m pc ls st0) :=
  call_genT (vx_runS (As := As) (rest := rest) X (hc H.size) cw ⟨Wx_blind D ty H.size Wc.flatten _, fun U hU hW => ⟨rfl, ⟨by rw [hU], by rw [hU]; exact P_subF hP is hC, va_K.moved hW.alike hK, (D_subF hD is hnd hC).weaken (fun _ _ _ _ => trivial)⟩, hZ.go hW hU hS.2.1 (freeF (Wc := Wc) hD hS hA is hC)⟩⟩ rfl hn hsz hst (lv_room hW) hdg hf) hP hD hS hA is hC kk
end TROWS
theorem nB8 {x : Int32} (h : ¬ isB x) (c : ¬ x < 0) : ¬ x < 8 := fun k => h ⟨c, fun k2 => by
  have a := Int32.lt_iff_toInt_lt.mp k; have b := Int32.lt_iff_toInt_lt.mp k2
  have e1 : (8 : Int32).toInt = 8 := by decide
  have e2 : (7 : Int32).toInt = 7 := by decide
  omega⟩
theorem nR7 {x : Int32} (h : ¬ isR x) (c : ¬ x < 0) : ¬ x < 7 := fun k => h ⟨c, fun k2 => by
  have a := Int32.lt_iff_toInt_lt.mp k; have b := Int32.lt_iff_toInt_lt.mp k2
  have e1 : (7 : Int32).toInt = 7 := by decide
  have e2 : (6 : Int32).toInt = 6 := by decide
  omega⟩
theorem nRg {x lo hi : Int32} (h : ¬ inR x lo hi) (c : ¬ x < lo) : ¬ x ≤ hi := fun k => h ⟨c, Int32.not_lt.mpr k⟩

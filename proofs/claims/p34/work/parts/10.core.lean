/-! short forms: contracts that say exactly what a method answers and what its cells hold behind it -/
def mn (x y : Int32) : Int32 := if y < x then y else x
def mx (x y : Int32) : Int32 := if x < y then y else x
def uR (F : Nat → Nat → Int32) (k : Nat) (f : Nat → Int32) : Nat → Nat → Int32 := fun j => if j = k then f else F j
theorem uR_s (F : Nat → Nat → Int32) (k : Nat) (f : Nat → Int32) : uR F k f k = f := if_pos rfl
theorem uR_n (F : Nat → Nat → Int32) {k j : Nat} (f : Nat → Int32) (h : j ≠ k) : uR F k f j = F j := if_neg h
theorem upd_s (f : Nat → Int32) (k : Nat) (x : Int32) : upd f k x k = x := if_pos rfl
theorem upd_n (f : Nat → Int32) {k j : Nat} (x : Int32) (h : j ≠ k) : upd f k x j = f j := if_neg h
abbrev TY : Type := List (ClassId × FieldType)
def Wd (D : va_G) (ty : TY) (sz : Nat) (ws : va_W) (U : State) : Prop := U.heap.size = sz ∧ va_P D vwCl ws U.heap ∧ va_K D vwCl ty U ∧ va_D (fun _ => True) ws
def We (D : va_G) (ty : TY) (sz : Nat) (ws wo : va_W) (t : State) : Prop := va_P D vwCl wo t.heap ∧ va_K D vwCl ty t ∧ va_D (va_A ws sz) wo
def Qo (D : va_G) (ty : TY) (sz : Nat) (ws wo : va_W) (v : Option Value) : Array Value → State → Outcome → State → Prop := fun _ st oc t => (oc = .returned v ∧ We D ty sz ws wo t) ∧ va_F (va_A ws sz) st t
/-- from the cells ws the method answers v, and its cells are wo then -/
def C0 (l : Launch) (y : MethodName) (wl : List Cond) (rm : Room) (D : va_G) (ty : TY) (as : List Value) (ws : va_W) (v : Option Value) (wo : va_W) (mc ms : Nat) : Prop :=
  ∀ sz, Met l y wl rm (va_Pc as (Wd D ty sz ws)) (Qo D ty sz ws wo v) mc ms (va_A ws sz)
theorem Wd_blind (D : va_G) (ty : TY) (sz : Nat) (ws : va_W) (as : List Value) : FrameBlind (va_Pc as (Wd D ty sz ws)) := fun a U g mk q => by
  obtain ⟨q0, q1, qP, qK, qD⟩ := q
  exact ⟨q0, q1, qP, va_K.moved (u := U) (U := U.calling g mk a) (Vm.Alike.refl U.vm) qK, qD⟩
def stA {α : Type} : List α → List (Nat × α) → List α
  | ws, [] => ws
  | ws, z :: zs => stA (ws.set z.1 z.2) zs
theorem stA_spec {α : Type} : ∀ (z : List (Nat × α)) (ws : List α) (k : Nat) (q : α), (stA ws z)[k]? = some q → (k, q) ∈ z ∨ (ws[k]? = some q ∧ ∀ c, (k, c) ∉ z)
  | [], ws, k, q, h => Or.inr ⟨h, fun c hc => by cases hc⟩
  | (i, c) :: z, ws, k, q, h => by
    rcases stA_spec z (ws.set i c) k q h with h1 | ⟨h1, h2⟩
    · exact Or.inl (List.mem_cons_of_mem _ h1)
    · by_cases e : k = i
      · subst e
        have hl : k < ws.length := by
          have := (List.getElem?_eq_some_iff.mp h1).1
          rwa [List.length_set] at this
        rw [List.getElem?_set_self hl] at h1
        cases h1
        exact Or.inl List.mem_cons_self
      · rw [List.getElem?_set_ne (Ne.symm e)] at h1
        refine Or.inr ⟨h1, fun c2 hc => ?_⟩
        rcases List.mem_cons.mp hc with hc | hc
        · cases hc; exact e rfl
        · exact h2 c2 hc
theorem stA_map {α β : Type} (f : α → β) : ∀ (z : List (Nat × α)) (ws : List α), (∀ x ∈ z, ∃ c, ws[x.1]? = some c ∧ f x.2 = f c) → (stA ws z).map f = ws.map f
  | [], ws, _ => rfl
  | (i, w) :: z, ws, h => by
    obtain ⟨c, h1, h2⟩ := h (i, w) List.mem_cons_self
    have hl := (List.getElem?_eq_some_iff.mp h1).1
    have e : (ws.set i w).map f = ws.map f := by
      apply List.ext_getElem?
      intro k
      rw [List.getElem?_map, List.getElem?_map]
      by_cases hk : k = i
      · subst hk
        rw [List.getElem?_set_self hl, h1]
        show some (f w) = some (f c)
        rw [h2]
      · rw [List.getElem?_set_ne (Ne.symm hk)]
    show (stA (ws.set i w) z).map f = ws.map f
    rw [← e]
    refine stA_map f z (ws.set i w) (fun x hx => ?_)
    obtain ⟨c2, h3, h4⟩ := h x (List.mem_cons_of_mem _ hx)
    by_cases hk : x.1 = i
    · refine ⟨w, by rw [hk]; exact List.getElem?_set_self hl, ?_⟩
      rw [hk, h1] at h3
      cases h3
      rw [h4, h2]
    · exact ⟨c2, by rw [List.getElem?_set_ne (Ne.symm hk)]; exact h3, h4⟩
theorem P_iff {D : va_G} {cl : List vw_C} {ws : va_W} {H : Heap} : va_P D cl ws H ↔ ∀ q ∈ ws, va_at D cl q H :=
  ⟨fun h q hq => by obtain ⟨k, hk⟩ := List.getElem?_of_mem hq; exact h k q hk, fun h k q hk => h q (List.mem_of_getElem? hk)⟩
abbrev apart (x y : Nat × va_E) : Prop := x.1 ≠ y.1
theorem D_iff {A : Nat → Prop} {ws : va_W} : va_D A ws ↔ ws.Pairwise apart ∧ ∀ q ∈ ws, A q.1 := by
  constructor
  · intro h
    refine ⟨List.pairwise_iff_getElem.mpr (fun i j hi hj hij e => ?_), fun q hq => ?_⟩
    · have := h.1 i j _ _ (List.getElem?_eq_getElem hi) (List.getElem?_eq_getElem hj) e
      omega
    · obtain ⟨k, hk⟩ := List.getElem?_of_mem hq
      exact h.2 k q hk
  · intro h
    refine ⟨fun i j p q hi hj e => ?_, fun k q hk => h.2 q (List.mem_of_getElem? hk)⟩
    obtain ⟨hi', ei⟩ := List.getElem?_eq_some_iff.mp hi
    obtain ⟨hj', ej⟩ := List.getElem?_eq_some_iff.mp hj
    have hp := List.pairwise_iff_getElem.mp h.1
    rcases Nat.lt_trichotomy i j with c | c | c
    · exact absurd (by rw [ei, ej]; exact e) (hp i j hi' hj' c)
    · exact c
    · exact absurd (by rw [ei, ej]; exact e.symm) (hp j i hj' hi' c)
abbrev far (x y : va_W) : Prop := ∀ p ∈ x, ∀ q ∈ y, apart p q
theorem pick_at {Ws Wc : List va_W} {is : List Nat} (hC : is.map (fun i => Ws[i]?) = Wc.map some) {j : Nat} {w : va_W} (h : Wc[j]? = some w) : ∃ i, is[j]? = some i ∧ Ws[i]? = some w := by
  have h1 : (is.map (fun i => Ws[i]?))[j]? = some (some w) := by rw [hC, List.getElem?_map, h]; rfl
  rw [List.getElem?_map] at h1
  cases hi : is[j]? with
  | none => rw [hi] at h1; cases h1
  | some i => rw [hi] at h1; exact ⟨i, rfl, Option.some.inj h1⟩
theorem P_subF {D : va_G} {cl : List vw_C} {Ws Wc : List va_W} {H : Heap} (h : va_P D cl Ws.flatten H) (is : List Nat) (hC : is.map (fun i => Ws[i]?) = Wc.map some) : va_P D cl Wc.flatten H := by
  refine P_iff.mpr (fun q hq => ?_)
  obtain ⟨w, hw, hqw⟩ := List.mem_flatten.mp hq
  obtain ⟨j, hj⟩ := List.getElem?_of_mem hw
  obtain ⟨i, -, hi⟩ := pick_at hC hj
  exact P_iff.mp h q (List.mem_flatten.mpr ⟨w, List.mem_of_getElem? hi, hqw⟩)
theorem far_of {A : Nat → Prop} {Ws : List va_W} (h : va_D A Ws.flatten) {i j : Nat} {x y : va_W} (hi : Ws[i]? = some x) (hj : Ws[j]? = some y) (hij : i ≠ j) : far x y := by
  have hp := (List.pairwise_flatten.mp (D_iff.mp h).1).2
  obtain ⟨hi', ei⟩ := List.getElem?_eq_some_iff.mp hi
  obtain ⟨hj', ej⟩ := List.getElem?_eq_some_iff.mp hj
  rcases Nat.lt_or_gt_of_ne hij with c | c
  · have := List.pairwise_iff_getElem.mp hp i j hi' hj' c
    rw [ei, ej] at this
    exact this
  · have := List.pairwise_iff_getElem.mp hp j i hj' hi' c
    rw [ei, ej] at this
    exact fun p hp q hq e => this q hq p hp e.symm
theorem D_subF {A : Nat → Prop} {Ws Wc : List va_W} (h : va_D A Ws.flatten) (is : List Nat) (hn : va_nd is = true) (hC : is.map (fun i => Ws[i]?) = Wc.map some) : va_D A Wc.flatten := by
  refine D_iff.mpr ⟨List.pairwise_flatten.mpr ⟨fun l hl => ?_, List.pairwise_iff_getElem.mpr (fun i j hi hj hij => ?_)⟩, fun q hq => ?_⟩
  · obtain ⟨j, hj⟩ := List.getElem?_of_mem hl
    obtain ⟨i, -, hi⟩ := pick_at hC hj
    exact (List.pairwise_flatten.mp (D_iff.mp h).1).1 l (List.mem_of_getElem? hi)
  · obtain ⟨a, h1, h2⟩ := pick_at hC (List.getElem?_eq_getElem hi)
    obtain ⟨b, h3, h4⟩ := pick_at hC (List.getElem?_eq_getElem hj)
    refine far_of h h2 h4 (fun e => ?_)
    subst e
    have := va_nd_inj is hn i j a h1 h3
    omega
  · obtain ⟨w, hw, hqw⟩ := List.mem_flatten.mp hq
    obtain ⟨j, hj⟩ := List.getElem?_of_mem hw
    obtain ⟨i, -, hi⟩ := pick_at hC hj
    exact (D_iff.mp h).2 q (List.mem_flatten.mpr ⟨w, List.mem_of_getElem? hi, hqw⟩)
theorem A_mem {ws : va_W} {sz q : Nat} (h : va_A ws sz q) : (∃ e, (q, e) ∈ ws) ∨ sz ≤ q := by
  rcases h with ⟨k, e, h⟩ | h
  · exact Or.inl ⟨e, List.mem_of_getElem? h⟩
  · exact Or.inr h
theorem freeF {A0 : Nat → Prop} {Ws Wc : List va_W} {H0 H : Heap} {locs : List Loc} (hD : va_D A0 Ws.flatten) (hS : va_S A0 H0 H locs) (hA : ∀ q, H0.size ≤ q → A0 q) (is : List Nat) (hC : is.map (fun i => Ws[i]?) = Wc.map some) : ∀ q, va_A Wc.flatten H.size q → A0 q := by
  intro q h
  rcases A_mem h with ⟨e, h⟩ | h
  · obtain ⟨w, hw, hqw⟩ := List.mem_flatten.mp h
    obtain ⟨j, hj⟩ := List.getElem?_of_mem hw
    obtain ⟨i, -, hi⟩ := pick_at hC hj
    exact (D_iff.mp hD).2 (q, e) (List.mem_flatten.mpr ⟨w, List.mem_of_getElem? hi, hqw⟩)
  · exact hA q (Nat.le_trans hS.1 h)
theorem P_mergeF {A : Nat → Prop} {D : va_G} {cl : List vw_C} {Ws Wc Wo : List va_W} {H H1 : Heap} (hP : va_P D cl Ws.flatten H) (hD : va_D A Ws.flatten) (is : List Nat) (hC : is.map (fun i => Ws[i]?) = Wc.map some) (hl : is.length = Wo.length)
    (hk : ∀ q : Nat, q < H.size → ¬ va_A Wc.flatten H.size q → H1[q]? = H[q]?) (hP1 : va_P D cl Wo.flatten H1) : va_P D cl (stA Ws (is.zip Wo)).flatten H1 := by
  refine P_iff.mpr (fun q hq => ?_)
  obtain ⟨w, hw, hqw⟩ := List.mem_flatten.mp hq
  obtain ⟨k, hk0⟩ := List.getElem?_of_mem hw
  rcases stA_spec _ _ _ _ hk0 with h1 | ⟨h1, h2⟩
  · exact P_iff.mp hP1 q (List.mem_flatten.mpr ⟨w, (List.of_mem_zip h1).2, hqw⟩)
  · have hin : q ∈ Ws.flatten := List.mem_flatten.mpr ⟨w, List.mem_of_getElem? h1, hqw⟩
    have hat := P_iff.mp hP q hin
    have hlt := hat.lt
    refine hat.kept (hk q.1 hlt (fun h => ?_))
    rcases A_mem h with ⟨e, h⟩ | h
    · obtain ⟨w2, hw2, hq2⟩ := List.mem_flatten.mp h
      obtain ⟨j, hj⟩ := List.getElem?_of_mem hw2
      obtain ⟨i, h3, h4⟩ := pick_at hC hj
      by_cases hki : k = i
      · subst hki
        have h6 : j < Wo.length := by rw [← hl]; exact (List.getElem?_eq_some_iff.mp h3).1
        have h7 : (is.zip Wo)[j]? = some (k, Wo[j]) := by rw [List.getElem?_zip_eq_some]; exact ⟨h3, List.getElem?_eq_getElem h6⟩
        exact h2 _ (List.mem_of_getElem? h7)
      · exact far_of hD h1 h4 hki q hqw (q.1, e) hq2 rfl
    · omega
/-- the addresses, told in two ways: so that no one compares what lies there -/
def adA : va_W → List Nat
  | [] => []
  | q :: w => q.1 :: adA w
def adC : Nat → va_W → List Nat
  | 0, _ => []
  | _ + 1, [] => []
  | n + 1, q :: w => q.1 :: adC n w
def adB (w : va_W) : List Nat := adC w.length w
theorem adA_map : ∀ w : va_W, adA w = w.map (fun q => q.1)
  | [] => rfl
  | q :: w => by simp only [adA, List.map_cons, adA_map w]
theorem adC_map : ∀ w : va_W, adC w.length w = w.map (fun q => q.1)
  | [] => rfl
  | q :: w => by simp only [List.length_cons, adC, List.map_cons, adC_map w]
theorem adB_map (w : va_W) : adB w = w.map (fun q => q.1) := adC_map w
def mpA : List va_W → List (List Nat)
  | [] => []
  | w :: ws => adA w :: mpA ws
def mpC : Nat → List va_W → List (List Nat)
  | 0, _ => []
  | _ + 1, [] => []
  | n + 1, w :: ws => adB w :: mpC n ws
def mpB (ws : List va_W) : List (List Nat) := mpC ws.length ws
theorem mpA_map : ∀ ws : List va_W, mpA ws = ws.map adA
  | [] => rfl
  | w :: ws => by simp only [mpA, List.map_cons, mpA_map ws]
theorem mpC_map : ∀ ws : List va_W, mpC ws.length ws = ws.map adB
  | [] => rfl
  | w :: ws => by simp only [List.length_cons, mpC, List.map_cons, mpC_map ws]
theorem mpB_map (ws : List va_W) : mpB ws = ws.map adB := mpC_map ws
theorem adA_B {Wo Wc : List va_W} (h : mpA Wo = mpB Wc) {j : Nat} {x y : va_W} (hx : Wo[j]? = some x) (hy : Wc[j]? = some y) : x.map (fun q => q.1) = y.map (fun q => q.1) := by
  have h1 : (Wo.map adA)[j]? = (Wc.map adB)[j]? := by rw [← mpA_map, ← mpB_map, h]
  rw [List.getElem?_map, List.getElem?_map, hx, hy] at h1
  rw [← adA_map, ← adB_map]
  exact Option.some.inj h1
theorem D_adr {A : Nat → Prop} {ws ws' : va_W} (hD : va_D A ws) (h : ws'.map (fun q => q.1) = ws.map (fun q => q.1)) : va_D A ws' := by
  have key : ∀ (k : Nat) (q : Nat × va_E), ws'[k]? = some q → ∃ q0, ws[k]? = some q0 ∧ q0.1 = q.1 := by
    intro k q hk
    have h1 : (ws'.map (fun q => q.1))[k]? = some q.1 := by rw [List.getElem?_map, hk]; rfl
    rw [h, List.getElem?_map] at h1
    cases hi : ws[k]? with
    | none => rw [hi] at h1; cases h1
    | some z => rw [hi] at h1; exact ⟨z, rfl, Option.some.inj h1⟩
  refine ⟨fun i j x y hi hj hxy => ?_, fun k q hk => ?_⟩
  · obtain ⟨x0, h1, h2⟩ := key i x hi
    obtain ⟨y0, h3, h4⟩ := key j y hj
    exact hD.1 i j x0 y0 h1 h3 (h2.trans (hxy.trans h4.symm))
  · obtain ⟨q0, h1, h2⟩ := key k q hk
    rw [← h2]
    exact hD.2 k q0 h1
theorem D_mergeF {A : Nat → Prop} {Ws Wc Wo : List va_W} (hD : va_D A Ws.flatten) (is : List Nat) (hC : is.map (fun i => Ws[i]?) = Wc.map some) (hfa : mpA Wo = mpB Wc) : va_D A (stA Ws (is.zip Wo)).flatten := by
  refine D_adr hD ?_
  rw [List.map_flatten, List.map_flatten]
  refine congrArg List.flatten (stA_map _ _ _ (fun x hx => ?_))
  obtain ⟨j, hj⟩ := List.getElem?_of_mem hx
  obtain ⟨h1, h2⟩ := List.getElem?_zip_eq_some.mp hj
  have hjl : j < Wc.length := by
    have e : (Wo.map adA).length = (Wc.map adB).length := by rw [← mpA_map, ← mpB_map, hfa]
    rw [List.length_map, List.length_map] at e
    rw [← e]
    exact (List.getElem?_eq_some_iff.mp h2).1
  have hy := List.getElem?_eq_getElem hjl
  obtain ⟨i, h3, h4⟩ := pick_at hC hy
  rw [h1] at h3
  cases h3
  exact ⟨_, h4, adA_B hfa h2 hy⟩
theorem cell_cg {cA : ClassId} {n : Nat} {f g : Nat → Int32} (h : ∀ j, j < n → f j = g j) : vp_cell cA (n, .inl f) = vp_cell cA (n, .inl g) := by
  have e : (fun j : Fin n => Value.int (f j.val)) = fun j : Fin n => Value.int (g j.val) := funext fun j => by rw [h j.val j.isLt]
  show arrV cA n (fun j => Value.int (f j)) = arrV cA n (fun j => Value.int (g j))
  unfold arrV
  rw [e]
theorem PD_cg {D : va_G} {cl : List vw_C} {A : Nat → Prop} {ws : va_W} {H : Heap} (hP : va_P D cl ws H) (hD : va_D A ws) (q0 : Nat) {a : Nat} {cA : ClassId} {n : Nat} {f : Nat → Int32} (g : Nat → Int32) (he : ws[q0]? = some (a, .inl (cA, n, .inl f))) (h : ∀ j, j < n → f j = g j) {wn : va_W} (hn : ws.set q0 (a, .inl (cA, n, .inl g)) = wn) : va_P D cl wn H ∧ va_D A wn := by
  subst hn
  refine ⟨va_P.set hP hD he ?_ (fun _ _ => rfl), hD.set he⟩
  have h1 : H[a]? = some (vp_cell cA (n, .inl f)) := hP q0 _ he
  show H[a]? = some (vp_cell cA (n, .inl g))
  rw [← cell_cg h]
  exact h1
theorem PD_re {D : va_G} {cl : List vw_C} {A : Nat → Prop} {ws wn : va_W} {H : Heap} (e : ws = wn) (hP : va_P D cl ws H) (hD : va_D A ws) : va_P D cl wn H ∧ va_D A wn := by subst e; exact ⟨hP, hD⟩
section CORE
variable {p : Program} {l : Launch} {e : Env} {R : Room} {s : State} {m : MethodId} {args : Array Value} {below : List Frame} {meth : Method} {c : Code} {H : Heap} {locs : List Loc} {cells slots : Nat} {Q : State → Prop}
variable {cc : ByteArray} {pc : Nat} {ls : Array Slot} {rest : List Value} {D : va_G} {cl : List vw_C} {A : Nat → Prop} {a : Nat} {tys : List (ClassId × FieldType)} {ws : va_W} {H0 : Heap}
theorem lv_eqi {x y : Int32} (h : x = y) (k : W p l e R s m args below meth c H locs cells slots Q (F0 m pc ls (.int y :: rest))) : W p l e R s m args below meth c H locs cells slots Q (F0 m pc ls (.int x :: rest)) := by subst h; exact k
theorem lv_eql {x y : Int64} (h : x = y) (k : W p l e R s m args below meth c H locs cells slots Q (F0 m pc ls (.long y :: rest))) : W p l e R s m args below meth c H locs cells slots Q (F0 m pc ls (.long x :: rest)) := by subst h; exact k
theorem r_iald (hx : p.tables.exec = Jvm.exec) (hb : c.code = cc) (hK : va_K D cl tys s) (hP : va_P D cl ws H) (q0 t0 i : Nat) {cA : ClassId} {n : Nat} {f : Nat → Int32} (ha : ws[q0]? = some (a, .inl (cA, n, .inl f))) (ht : tys[t0]? = some (cA, .int)) (hi : i < n) (hn : n ≤ 4096) (hdg : decode cc pc = .ok (.iaload, 1))
    (kk : W p l e R s m args below meth c H locs cells slots Q (F0 m (pc + 1) ls (.int (f i) :: rest))) : W p l e R s m args below meth c H locs cells slots Q (F0 m pc ls (.int (nI i) :: .ref a :: rest)) := by
  refine va_iald hx hb hK hP q0 t0 ha ht (vp_in_nI hi (by omega)) hdg ?_
  rw [nI_clamp (by omega)]
  exact kk
theorem r_zald (hx : p.tables.exec = Jvm.exec) (hb : c.code = cc) (hK : va_K D cl tys s) (hP : va_P D cl ws H) (q0 t0 i : Nat) {cA : ClassId} {n : Nat} {f : Nat → Int32} (ha : ws[q0]? = some (a, .inl (cA, n, .inl f))) (ht : tys[t0]? = some (cA, .boolean)) (hi : i < n) (hn : n ≤ 4096) (hdg : decode cc pc = .ok (.baload, 1))
    (kk : W p l e R s m args below meth c H locs cells slots Q (F0 m (pc + 1) ls (.int (f i) :: rest))) : W p l e R s m args below meth c H locs cells slots Q (F0 m pc ls (.int (nI i) :: .ref a :: rest)) := by
  refine va_zald hx hb hK hP q0 t0 ha ht (vp_in_nI hi (by omega)) hdg ?_
  rw [nI_clamp (by omega)]
  exact kk
theorem r_iast (hx : p.tables.exec = Jvm.exec) (hb : c.code = cc) (hK : va_K D cl tys s) (hP : va_P D cl ws H) (hD : va_D A ws) (hS : va_S A H0 H locs) (q0 t0 i : Nat) {cA : ClassId} {n : Nat} {f : Nat → Int32} {x : Int32} {wn : va_W} (ha : ws[q0]? = some (a, .inl (cA, n, .inl f))) (ht : tys[t0]? = some (cA, .int)) (hi : i < n) (hn : n ≤ 4096) (hw : ws.set q0 (a, .inl (cA, n, .inl (upd f i x))) = wn) (hdg : decode cc pc = .ok (.iastore, 1))
    (kk : ∀ (H1 : Heap) (locs1 : List Loc), va_P D cl wn H1 → va_D A wn → va_S A H0 H1 locs1 → W p l e R s m args below meth c H1 locs1 cells slots Q (F0 m (pc + 1) ls rest)) : W p l e R s m args below meth c H locs cells slots Q (F0 m pc ls (.int x :: .int (nI i) :: .ref a :: rest)) := by
  refine va_iast hx hb hK hP hD hS q0 t0 ha ht (vp_in_nI hi (by omega)) hdg ?_
  rw [nI_clamp (by omega), hw]
  exact kk
theorem r_zast (hx : p.tables.exec = Jvm.exec) (hb : c.code = cc) (hK : va_K D cl tys s) (hP : va_P D cl ws H) (hD : va_D A ws) (hS : va_S A H0 H locs) (q0 t0 i : Nat) {cA : ClassId} {n : Nat} {f : Nat → Int32} {x : Int32} {wn : va_W} (ha : ws[q0]? = some (a, .inl (cA, n, .inl f))) (ht : tys[t0]? = some (cA, .boolean)) (hi : i < n) (hn : n ≤ 4096) (hv : vp_nar .boolean x = x) (hw : ws.set q0 (a, .inl (cA, n, .inl (upd f i x))) = wn) (hdg : decode cc pc = .ok (.bastore, 1))
    (kk : ∀ (H1 : Heap) (locs1 : List Loc), va_P D cl wn H1 → va_D A wn → va_S A H0 H1 locs1 → W p l e R s m args below meth c H1 locs1 cells slots Q (F0 m (pc + 1) ls rest)) : W p l e R s m args below meth c H locs cells slots Q (F0 m pc ls (.int x :: .int (nI i) :: .ref a :: rest)) := by
  refine va_zast hx hb hK hP hD hS q0 t0 ha ht (vp_in_nI hi (by omega)) hdg ?_
  rw [nI_clamp (by omega), hv, hw]
  exact kk
theorem n_ge (hx : p.tables.exec = Jvm.exec) (hb : c.code = cc) {i j : Nat} (h1 : i < 2 ^ 31) (h2 : j < 2 ^ 31) {off : Int} {tgt : Nat} (hdg : decode cc pc = .ok (.if_icmp .ge off, 3)) (ht : (pc : Int) + off = (tgt : Int))
    (kt : j ≤ i → W p l e R s m args below meth c H locs cells slots Q (F0 m tgt ls rest)) (kf : i < j → W p l e R s m args below meth c H locs cells slots Q (F0 m (pc + 3) ls rest)) : W p l e R s m args below meth c H locs cells slots Q (F0 m pc ls (.int (nI j) :: .int (nI i) :: rest)) :=
  lv_icmp_ge hx hb hdg ht (fun h => kt ((nI_leI h2 h1).mp h)) (fun h => kf (Nat.lt_of_not_le fun z => h ((nI_leI h2 h1).mpr z)))
theorem n_gt (hx : p.tables.exec = Jvm.exec) (hb : c.code = cc) {i j : Nat} (h1 : i < 2 ^ 31) (h2 : j < 2 ^ 31) {off : Int} {tgt : Nat} (hdg : decode cc pc = .ok (.if_icmp .gt off, 3)) (ht : (pc : Int) + off = (tgt : Int))
    (kt : j < i → W p l e R s m args below meth c H locs cells slots Q (F0 m tgt ls rest)) (kf : i ≤ j → W p l e R s m args below meth c H locs cells slots Q (F0 m (pc + 3) ls rest)) : W p l e R s m args below meth c H locs cells slots Q (F0 m pc ls (.int (nI j) :: .int (nI i) :: rest)) :=
  lv_icmp_gt hx hb hdg ht (fun h => kt ((nI_ltI h2 h1).mp h)) (fun h => kf (Nat.le_of_not_lt fun z => h ((nI_ltI h2 h1).mpr z)))
theorem n_lt (hx : p.tables.exec = Jvm.exec) (hb : c.code = cc) {i j : Nat} (h1 : i < 2 ^ 31) (h2 : j < 2 ^ 31) {off : Int} {tgt : Nat} (hdg : decode cc pc = .ok (.if_icmp .lt off, 3)) (ht : (pc : Int) + off = (tgt : Int))
    (kt : i < j → W p l e R s m args below meth c H locs cells slots Q (F0 m tgt ls rest)) (kf : j ≤ i → W p l e R s m args below meth c H locs cells slots Q (F0 m (pc + 3) ls rest)) : W p l e R s m args below meth c H locs cells slots Q (F0 m pc ls (.int (nI j) :: .int (nI i) :: rest)) :=
  lv_icmp_lt hx hb hdg ht (fun h => kt ((nI_ltI h1 h2).mp h)) (fun h => kf (Nat.le_of_not_lt fun z => h ((nI_ltI h1 h2).mpr z)))
theorem n_le (hx : p.tables.exec = Jvm.exec) (hb : c.code = cc) {i j : Nat} (h1 : i < 2 ^ 31) (h2 : j < 2 ^ 31) {off : Int} {tgt : Nat} (hdg : decode cc pc = .ok (.if_icmp .le off, 3)) (ht : (pc : Int) + off = (tgt : Int))
    (kt : i ≤ j → W p l e R s m args below meth c H locs cells slots Q (F0 m tgt ls rest)) (kf : j < i → W p l e R s m args below meth c H locs cells slots Q (F0 m (pc + 3) ls rest)) : W p l e R s m args below meth c H locs cells slots Q (F0 m pc ls (.int (nI j) :: .int (nI i) :: rest)) :=
  lv_icmp_le hx hb hdg ht (fun h => kt ((nI_leI h1 h2).mp h)) (fun h => kf (Nat.lt_of_not_le fun z => h ((nI_leI h1 h2).mpr z)))
theorem n_eq (hx : p.tables.exec = Jvm.exec) (hb : c.code = cc) {i j : Nat} (h1 : i < 2 ^ 31) (h2 : j < 2 ^ 31) {off : Int} {tgt : Nat} (hdg : decode cc pc = .ok (.if_icmp .eq off, 3)) (ht : (pc : Int) + off = (tgt : Int))
    (kt : i = j → W p l e R s m args below meth c H locs cells slots Q (F0 m tgt ls rest)) (kf : i ≠ j → W p l e R s m args below meth c H locs cells slots Q (F0 m (pc + 3) ls rest)) : W p l e R s m args below meth c H locs cells slots Q (F0 m pc ls (.int (nI j) :: .int (nI i) :: rest)) :=
  lv_icmp_eq hx hb hdg ht (fun h => kt ((nI_eq h1 h2).mp h)) (fun h => kf fun z => h ((nI_eq h1 h2).mpr z))
theorem n_ne (hx : p.tables.exec = Jvm.exec) (hb : c.code = cc) {i j : Nat} (h1 : i < 2 ^ 31) (h2 : j < 2 ^ 31) {off : Int} {tgt : Nat} (hdg : decode cc pc = .ok (.if_icmp .ne off, 3)) (ht : (pc : Int) + off = (tgt : Int))
    (kt : i ≠ j → W p l e R s m args below meth c H locs cells slots Q (F0 m tgt ls rest)) (kf : i = j → W p l e R s m args below meth c H locs cells slots Q (F0 m (pc + 3) ls rest)) : W p l e R s m args below meth c H locs cells slots Q (F0 m pc ls (.int (nI j) :: .int (nI i) :: rest)) :=
  lv_icmp_ne hx hb hdg ht (fun h => kt fun z => h ((nI_eq h1 h2).mpr z)) (fun h => kf ((nI_eq h1 h2).mp h))
theorem n_ifgt (hx : p.tables.exec = Jvm.exec) (hb : c.code = cc) {i : Nat} (h1 : i < 2 ^ 31) {off : Int} {tgt : Nat} (hdg : decode cc pc = .ok (.ifCond .gt off, 3)) (ht : (pc : Int) + off = (tgt : Int))
    (kt : 0 < i → W p l e R s m args below meth c H locs cells slots Q (F0 m tgt ls rest)) (kf : i = 0 → W p l e R s m args below meth c H locs cells slots Q (F0 m (pc + 3) ls rest)) : W p l e R s m args below meth c H locs cells slots Q (F0 m pc ls (.int (nI i) :: rest)) :=
  lv_if_gt hx hb hdg ht (fun h => kt ((nI_ltI (a := 0) (by decide) h1).mp h)) (fun h => kf (Nat.eq_zero_of_not_pos fun z => h ((nI_ltI (a := 0) (by decide) h1).mpr z)))
theorem n_ifle (hx : p.tables.exec = Jvm.exec) (hb : c.code = cc) {i : Nat} (h1 : i < 2 ^ 31) {off : Int} {tgt : Nat} (hdg : decode cc pc = .ok (.ifCond .le off, 3)) (ht : (pc : Int) + off = (tgt : Int))
    (kt : i = 0 → W p l e R s m args below meth c H locs cells slots Q (F0 m tgt ls rest)) (kf : 0 < i → W p l e R s m args below meth c H locs cells slots Q (F0 m (pc + 3) ls rest)) : W p l e R s m args below meth c H locs cells slots Q (F0 m pc ls (.int (nI i) :: rest)) :=
  lv_if_le hx hb hdg ht (fun h => kt (Nat.eq_zero_of_not_pos fun z => absurd h (nI_nle z h1))) (fun h => kf (Nat.pos_of_ne_zero fun z => h (by subst z; decide)))
theorem n_ifeq (hx : p.tables.exec = Jvm.exec) (hb : c.code = cc) {i : Nat} (h1 : i < 2 ^ 31) {off : Int} {tgt : Nat} (hdg : decode cc pc = .ok (.ifCond .eq off, 3)) (ht : (pc : Int) + off = (tgt : Int))
    (kt : i = 0 → W p l e R s m args below meth c H locs cells slots Q (F0 m tgt ls rest)) (kf : 0 < i → W p l e R s m args below meth c H locs cells slots Q (F0 m (pc + 3) ls rest)) : W p l e R s m args below meth c H locs cells slots Q (F0 m pc ls (.int (nI i) :: rest)) :=
  lv_if_eq hx hb hdg ht (fun h => kt ((nI_eq (b := 0) h1 (by decide)).mp h)) (fun h => kf (Nat.pos_of_ne_zero fun z => h (by subst z; decide)))
theorem n_ifne (hx : p.tables.exec = Jvm.exec) (hb : c.code = cc) {i : Nat} (h1 : i < 2 ^ 31) {off : Int} {tgt : Nat} (hdg : decode cc pc = .ok (.ifCond .ne off, 3)) (ht : (pc : Int) + off = (tgt : Int))
    (kt : 0 < i → W p l e R s m args below meth c H locs cells slots Q (F0 m tgt ls rest)) (kf : i = 0 → W p l e R s m args below meth c H locs cells slots Q (F0 m (pc + 3) ls rest)) : W p l e R s m args below meth c H locs cells slots Q (F0 m pc ls (.int (nI i) :: rest)) :=
  lv_if_ne hx hb hdg ht (fun h => kt (Nat.pos_of_ne_zero fun z => h (by subst z; decide))) (fun h => kf ((nI_eq (b := 0) h1 (by decide)).mp h))
theorem n_ifge (hx : p.tables.exec = Jvm.exec) (hb : c.code = cc) {i : Nat} (h1 : i < 2 ^ 31) {off : Int} {tgt : Nat} (hdg : decode cc pc = .ok (.ifCond .ge off, 3)) (ht : (pc : Int) + off = (tgt : Int))
    (kt : W p l e R s m args below meth c H locs cells slots Q (F0 m tgt ls rest)) : W p l e R s m args below meth c H locs cells slots Q (F0 m pc ls (.int (nI i) :: rest)) :=
  lv_if_ge hx hb hdg ht (fun _ => kt) (fun h => absurd ((nI_leI (a := 0) (by decide) h1).mpr (Nat.zero_le i)) h)
theorem n_iflt (hx : p.tables.exec = Jvm.exec) (hb : c.code = cc) {i : Nat} (h1 : i < 2 ^ 31) {off : Int} {tgt : Nat} (hdg : decode cc pc = .ok (.ifCond .lt off, 3)) (ht : (pc : Int) + off = (tgt : Int))
    (kf : W p l e R s m args below meth c H locs cells slots Q (F0 m (pc + 3) ls rest)) : W p l e R s m args below meth c H locs cells slots Q (F0 m pc ls (.int (nI i) :: rest)) :=
  lv_if_lt hx hb hdg ht (fun h => absurd h (nI_pos h1)) (fun _ => kf)
end CORE
section CALLS
variable {p : Program} {l : Launch} {e : Env} {R : Room} {s : State} {m : MethodId} {args : Array Value} {below : List Frame} {meth : Method} {c : Code} {H : Heap} {locs : List Loc} {cells slots : Nat} {Q : State → Prop}
variable {cc bytes : ByteArray} {pc : Nat} {ls : Array Slot} {rest st0 As : List Value} {D : va_G} {A : Nat → Prop} {b : Nat} {ty : TY} {Ws Wc Wo Wn : List va_W} {H0 : Heap} {nL maxL mc ms n index : Nat} {Ts wl : List Cond} {own C : String} {y : MethodName} {ret : Option FieldType} {rm : Room} {v : Option Value}
theorem call_gen (hr : va_Run p l e R s m args below meth c H locs cells slots mc ms (F0 m pc ls st0) rest (Qo D ty H.size Wc.flatten Wo.flatten v args) (va_A Wc.flatten H.size)) (hP : va_P D vwCl Ws.flatten H) (hD : va_D A Ws.flatten) (hS : va_S A H0 H locs) (hA : ∀ q, H0.size ≤ q → A q)
    (is : List Nat) (hC : is.map (fun i => Ws[i]?) = Wc.map some) (hlen : is.length = Wo.length) (hwn : stA Ws (is.zip Wo) = Wn) (hfa : mpA Wo = mpB Wc)
    (kk : ∀ (H1 : Heap) (locs1 : List Loc), va_P D vwCl Wn.flatten H1 → va_D A Wn.flatten → va_S A H0 H1 locs1 → W p l e R s m args below meth c H1 locs1 (cells + mc) (slots + ms) Q (F0 m (pc + 3) ls (v.toList ++ rest))) : W p l e R s m args below meth c H locs cells slots Q (F0 m pc ls st0) := by
  have hF := freeF (Wc := Wc) hD hS hA is hC
  intro T hT X
  obtain ⟨v0, st₀, t, T', L, h0, X', hL, e1, e2, ⟨⟨hv, hP1, hK1, hD1⟩, hz, hk⟩, st⟩ := hr T hT X
  cases hv
  rw [h0] at hz hk
  rw [← e1] at hz hk hP1
  have hPn : va_P D vwCl Wn.flatten T'.heap := by rw [← hwn]; exact P_mergeF hP hD is hC hlen hk hP1
  have hDn : va_D A Wn.flatten := by rw [← hwn]; exact D_mergeF hD is hC hfa
  obtain ⟨t2, a1, b1⟩ := kk T'.heap (locs ++ L) hPn hDn ⟨Nat.le_trans hS.1 hz, fun q h1 h2 => by
      rw [hk q (Nat.lt_of_lt_of_le h1 hS.1) (fun z => h2 (hF q z))]; exact hS.2.1 q h1 h2, fun q hq => by
      rcases List.mem_append.mp hq with h | h
      · exact hS.2.2 q h
      · exact hF _ (hL q h)⟩ T' rfl X'
  exact ⟨t2, st t2 a1, b1⟩
theorem kcallV (X : CallFix p m c cc nL s args Ts own) (hc : C0 l y wl rm D ty (.ref b :: As) Wc.flatten v Wo.flatten mc ms) (cw : CallW R s args own C index y bytes maxL ret wl rm mc ms n)
    (hK : va_K D vwCl ty s) (hP : va_P D vwCl Ws.flatten H) (hD : va_D A Ws.flatten) (hS : va_S A H0 H locs) (hA : ∀ q, H0.size ≤ q → A q)
    (is : List Nat) (hC : is.map (fun i => Ws[i]?) = Wc.map some) (hnd : va_nd is = true) (hlen : is.length = Wo.length) (hwn : stA Ws (is.zip Wo) = Wn) (hfa : mpA Wo = mpB Wc)
    (q0 ci : Nat) {fs : List Value} {T : u_T} {N : Nat} (he : (Ws.flatten)[q0]? = some (b, .inr (ci, fs))) (hcl : vwCl[ci]? = some (C, T, N))
    (hn : As.length = n) (hsz : ls.size = nL) (hst : st0 = As.reverse ++ .ref b :: rest) (hW : (rest.map fun v => v.category).sum ≤ 8) (hdg : decode cc pc = .ok (.invokevirtual index, 3)) (hf : cells + mc ≤ R.cells ∧ slots + ms ≤ R.slots)
    (kk : ∀ (H1 : Heap) (locs1 : List Loc), va_P D vwCl Wn.flatten H1 → va_D A Wn.flatten → va_S A H0 H1 locs1 → W p l e R s m args below meth c H1 locs1 (cells + mc) (slots + ms) Q (F0 m (pc + 3) ls (v.toList ++ rest))) : W p l e R s m args below meth c H locs cells slots Q (F0 m pc ls st0) :=
  call_gen (va_runV (As := As) (rest := rest) (b := b) X (hc H.size) cw ⟨Wd_blind D ty H.size Wc.flatten _, va_recv (q := (C, T, N)) hK hP hcl he, fun U hU hW => ⟨rfl, by rw [hU], by rw [hU]; exact P_subF hP is hC, va_K.moved hW.alike hK, (D_subF hD is hnd hC).weaken (fun _ _ _ _ => trivial)⟩⟩ rfl hn hsz hst (lv_room hW) hdg hf) hP hD hS hA is hC hlen hwn hfa kk
theorem kcallS (X : CallFix p m c cc nL s args Ts own) (hc : C0 l y wl rm D ty As Wc.flatten v Wo.flatten mc ms) (cw : CallB R s args own index y bytes maxL ret wl rm mc ms n ∧ (Cond.static y).before args s = true)
    (hK : va_K D vwCl ty s) (hP : va_P D vwCl Ws.flatten H) (hD : va_D A Ws.flatten) (hS : va_S A H0 H locs) (hA : ∀ q, H0.size ≤ q → A q)
    (is : List Nat) (hC : is.map (fun i => Ws[i]?) = Wc.map some) (hnd : va_nd is = true) (hlen : is.length = Wo.length) (hwn : stA Ws (is.zip Wo) = Wn) (hfa : mpA Wo = mpB Wc)
    (hn : As.length = n) (hsz : ls.size = nL) (hst : st0 = As.reverse ++ rest) (hW : (rest.map fun v => v.category).sum ≤ 8) (hdg : decode cc pc = .ok (.invokestatic index, 3)) (hf : cells + mc ≤ R.cells ∧ slots + ms ≤ R.slots)
    (kk : ∀ (H1 : Heap) (locs1 : List Loc), va_P D vwCl Wn.flatten H1 → va_D A Wn.flatten → va_S A H0 H1 locs1 → W p l e R s m args below meth c H1 locs1 (cells + mc) (slots + ms) Q (F0 m (pc + 3) ls (v.toList ++ rest))) : W p l e R s m args below meth c H locs cells slots Q (F0 m pc ls st0) :=
  call_gen (va_runS (As := As) (rest := rest) X (hc H.size) cw ⟨Wd_blind D ty H.size Wc.flatten _, fun U hU hW => ⟨rfl, by rw [hU], by rw [hU]; exact P_subF hP is hC, va_K.moved hW.alike hK, (D_subF hD is hnd hC).weaken (fun _ _ _ _ => trivial)⟩⟩ rfl hn hsz hst (lv_room hW) hdg hf) hP hD hS hA is hC hlen hwn hfa kk
end CALLS
section BODIES
variable {l : Launch} {y : MethodName} {wl ws' : List Cond} {rm : Room} {D : va_G} {ty : TY} {as : List Value} {ws wo : va_W} {mc ms : Nat} {cc : ByteArray} {maxL : Nat}
/-- what a body owes at its end, and what it has at its entry -/
theorem C0_gen {ret : Option FieldType} {v : Option Value} (hy : plainName y.cls = true) (hw : wl = Cond.code y cc maxL ret :: ws') (hml : (lg_sl as).length ≤ maxL)
    (body : ∀ (p : Program) (e : Env) (s : State) (m : MethodId) (below : List Frame) (meth : Method) (c : Code) (A : Nat → Prop) (ls : Array Slot) (Q : State → Prop),
      CallFix p m c cc maxL s as.toArray wl y.cls → meth.name = y.name → va_K D vwCl ty s → va_P D vwCl ws s.heap → va_D A ws → va_S A s.heap s.heap [] → (∀ q, s.heap.size ≤ q → A q) → lv_has ls maxL (lv_args 0 as) →
      (∀ (H : Heap) (locs : List Loc) (g : JFrame), va_P D vwCl wo H → va_D A wo → va_S A s.heap H locs → (∀ (Qc : Array Value → State → Outcome → State → Prop) (free : Addr → Prop), (∀ t : State, t.heap = H → s.WarmedH t.vm → Qc as.toArray s (.returned v) t) → (∀ q ∈ locs, free q.base) → meth.sig.returnType = ret → meth.locks = false → W p l e rm s m as.toArray below meth c H locs mc ms (MQ below Qc as.toArray s mc ms free) g) → W p l e rm s m as.toArray below meth c H locs mc ms Q g) →
      W p l e rm s m as.toArray below meth c s.heap [] 0 0 Q (F0 m 0 ls [])) : C0 l y wl rm D ty as ws v wo mc ms := by
  intro sz
  refine Met.ofW (cc := cc) (maxL := maxL) (ret := ret) hy hw ?_
  intro p e s m args below meth c s₁ B hml' hv
  obtain ⟨rfl, hsz, hP, hK, hD0⟩ := hv
  have hl := lv_entry as (n := maxL) hml
  rw [lg_entry_eq]
  subst hsz
  generalize (lg_sl as ++ List.replicate (maxL - (lg_sl as).length) Slot.unset).toArray = ls at hl ⊢
  refine body p e s m below meth c (va_A ws s.heap.size) ls _ ⟨B.exec, B.bytes, hml', findClass_of_methodNamed B.named, atoms_spec (ws := wl) B.pre⟩ (name_of_methodNamed B.named B.method).1 hK hP hD0.self va_S.rf (fun q h => Or.inr h) hl ?_
  intro H locs g hP hD hS k
  exact k _ _ (fun t ht hW => ⟨⟨rfl, by rw [ht]; exact hP, va_K.moved hW.alike hK, hD⟩, hS.F ht⟩) hS.2.2 B.returns B.notSynchronized
theorem C0_int {rt : FieldType} {r : Int32} (hy : plainName y.cls = true) (hw : wl = Cond.code y cc maxL (some rt) :: ws') (hml : (lg_sl as).length ≤ maxL) (hn : narrow rt (.int r) = .int r)
    (body : ∀ (p : Program) (e : Env) (s : State) (m : MethodId) (below : List Frame) (meth : Method) (c : Code) (A : Nat → Prop) (ls : Array Slot) (Q : State → Prop),
      CallFix p m c cc maxL s as.toArray wl y.cls → va_K D vwCl ty s → va_P D vwCl ws s.heap → va_D A ws → va_S A s.heap s.heap [] → (∀ q, s.heap.size ≤ q → A q) → lv_has ls maxL (lv_args 0 as) →
      (∀ (x : Int32) (H : Heap) (locs : List Loc) (pc : Nat) (ls : Array Slot), x = r → va_P D vwCl wo H → va_D A wo → va_S A s.heap H locs → decode cc pc = .ok (.ireturn, 1) → W p l e rm s m as.toArray below meth c H locs mc ms Q (F0 m pc ls [.int x])) →
      W p l e rm s m as.toArray below meth c s.heap [] 0 0 Q (F0 m 0 ls [])) : C0 l y wl rm D ty as ws (some (.int r)) wo mc ms := by
  refine C0_gen hy hw hml ?_
  intro p e s m below meth c A ls Q X hnm hK hP hD hS hA hl hend
  refine body p e s m below meth c A ls Q X hK hP hD hS hA hl ?_
  intro x H locs pc ls hxr hP hD hS hdg
  subst hxr
  exact hend H locs _ hP hD hS (fun Qc free hq hf hr hlk => W.zret (v := x) X.1 X.2.1 hr hn hq hf hdg hlk)
theorem C0_void (hy : plainName y.cls = true) (hw : wl = Cond.code y cc maxL none :: ws') (hml : (lg_sl as).length ≤ maxL)
    (body : ∀ (p : Program) (e : Env) (s : State) (m : MethodId) (below : List Frame) (meth : Method) (c : Code) (A : Nat → Prop) (ls : Array Slot) (Q : State → Prop),
      CallFix p m c cc maxL s as.toArray wl y.cls → meth.name = y.name → va_K D vwCl ty s → va_P D vwCl ws s.heap → va_D A ws → va_S A s.heap s.heap [] → (∀ q, s.heap.size ≤ q → A q) → lv_has ls maxL (lv_args 0 as) →
      (∀ (H : Heap) (locs : List Loc) (pc : Nat) (ls : Array Slot), va_P D vwCl wo H → va_D A wo → va_S A s.heap H locs → decode cc pc = .ok (.return_, 1) → W p l e rm s m as.toArray below meth c H locs mc ms Q (F0 m pc ls [])) →
      W p l e rm s m as.toArray below meth c s.heap [] 0 0 Q (F0 m 0 ls [])) : C0 l y wl rm D ty as ws none wo mc ms := by
  refine C0_gen hy hw hml ?_
  intro p e s m below meth c A ls Q X hnm hK hP hD hS hA hl hend
  refine body p e s m below meth c A ls Q X hnm hK hP hD hS hA hl ?_
  intro H locs pc ls hP hD hS hdg
  exact hend H locs _ hP hD hS (fun Qc free hq hf hr hlk => W.vret X.1 X.2.1 hr hq hf hdg hlk)
end BODIES
theorem n_dec {i : Nat} (h : 0 < i) : nI i + Int32.ofInt (-1) = nI (i - 1) := by
  obtain ⟨k, rfl⟩ : ∃ k, i = k + 1 := ⟨i - 1, by omega⟩
  rw [Nat.add_sub_cancel]
  exact pk_m1 k
theorem lv_re {ls : Array Slot} {nL : Nat} {lv lv' : List (Nat × Value)} (h : lv_has ls nL lv) (k : Nat) {i : Nat} {x y : Int32} (hk : lv[k]? = some (i, .int x)) (e : x = y) (hl : lv.set k (i, .int y) = lv') : lv_has ls nL lv' := by
  subst e
  have e2 : lv.set k (i, Value.int x) = lv := by
    have hlt := (List.getElem?_eq_some_iff.mp hk).1
    apply List.ext_getElem?
    intro j
    by_cases hj : j = k
    · subst hj; rw [List.getElem?_set_self hlt, hk]
    · rw [List.getElem?_set_ne (Ne.symm hj)]
  rw [← hl, e2]
  exact h
theorem n_m1 (t : Nat) : nI t + Int32.ofInt (-1) = nI t - 1 := by
  rw [Int32.sub_eq_add_neg]
  rfl
theorem n_s1 (t : Nat) : nI (t + 1) - 1 = nI t := nI_pred t
theorem n_neg {k : Nat} (h : k < 2 ^ 31) (c : nI k - 1 < 0) : k = 0 := by
  cases k with
  | zero => rfl
  | succ t => rw [nI_pred] at c; exact absurd c (nI_pos (by omega))
theorem n_nneg {k : Nat} (c : ¬ nI k - 1 < 0) : ∃ t, k = t + 1 := by
  cases k with
  | zero => exact absurd (by decide) c
  | succ t => exact ⟨t, rfl⟩
theorem nar_b1 (p : Prop) [Decidable p] : narrow .boolean (.int (if p then 1 else 0)) = .int (if p then 1 else 0) := by
  by_cases h : p
  · rw [if_pos h]; rfl
  · rw [if_neg h]; rfl
section COPY
variable {p : Program} {l : Launch} {e : Env} {R : Room} {s : State} {m : MethodId} {args : Array Value} {below : List Frame} {meth : Method} {c : Code} {H : Heap} {locs : List Loc} {cells slots : Nat} {Q : State → Prop}
variable {cc : ByteArray} {pc : Nat} {ls : Array Slot} {rest : List Value} {D : va_G} {cl : List vw_C} {A : Nat → Prop} {a : Nat} {tys : List (ClassId × FieldType)} {ws wn : va_W} {H0 : Heap}
theorem r_copyi (hexec : p.tables.exec = Jvm.exec) (hb : c.code = cc) (hml : c.maxLocals = ls.size) {own : String} {index : Nat} (hown : s.vm.findClass own = some m.cls) (hlink : (Cond.methodLink own index arraycopyName).before args s = true) (hnat : (Cond.native arraycopyName).before args s = true) (hstat : (Cond.static arraycopyName).before args s = true) (hini : (Cond.initialized "java/lang/System").before args s = true)
    (hK : va_K D cl tys s) (hP : va_P D cl ws H) (hD : va_D A ws) (hS : va_S A H0 H locs) (q0 q1 t0 : Nat) (sp dp n : Nat) {a0 : Nat} {c0 c1 : ClassId} {n0 n1 : Nat} {f g : Nat → Int32} {ty : FieldType} (ha0 : ws[q0]? = some (a0, .inl (c0, n0, .inl f))) (ha1 : ws[q1]? = some (a, .inl (c1, n1, .inl g))) (ht0 : tys[t0]? = some (c0, ty)) (ht1 : tys[t0]? = some (c1, ty)) (hprim : refKind ty = false)
    (h4 : sp + n ≤ n0) (h5 : dp + n ≤ n1) (hn0 : n0 ≤ 4096) (hn1 : n1 ≤ 4096) (hfit : ∀ i, i < n → fits ty (.int (f (sp + i))) = true) (hw : ws.set q1 (a, .inl (c1, n1, .inl (va_cpy f g sp dp n))) = wn)
    (hframes : 1 ≤ R.frames) (hlocals : (rest.map fun v => v.category).sum + (nativeFrameWords "java/lang/System" "arraycopy" 5 + 11) ≤ R.locals) (hdg : decode cc pc = .ok (.invokestatic index, 3))
    (kk : ∀ (H1 : Heap) (locs1 : List Loc), va_P D cl wn H1 → va_D A wn → va_S A H0 H1 locs1 → W p l e R s m args below meth c H1 locs1 cells slots Q (F0 m (pc + 3) ls rest)) : W p l e R s m args below meth c H locs cells slots Q (F0 m pc ls (.int (nI n) :: .int (nI dp) :: .ref a :: .int (nI sp) :: .ref a0 :: rest)) := by
  have e1 : (nI sp).toNatClampNeg = sp := nI_clamp (by omega)
  have e2 : (nI dp).toNatClampNeg = dp := nI_clamp (by omega)
  have e3 : (nI n).toNatClampNeg = n := nI_clamp (by omega)
  refine va_copyi hexec hb hml hown hlink hnat hstat hini hK hP hD hS q0 q1 t0 t0 ha0 ha1 ht0 ht1 hprim (nI_pos (by omega)) (nI_pos (by omega)) (nI_pos (by omega)) (by rw [e1, e3]; exact h4) (by rw [e2, e3]; exact h5) (by rw [e1, e3]; exact hfit) hframes hlocals hdg ?_
  rw [e1, e2, e3, hw]
  exact kk
end COPY
/-! the cells of the class's objects: a flock, notes, a state; their numbers in the rows of one matrix: 0 gas, 1 bags, 2 leaks, 3 tied, 4 lengths, 5 bears, 6 heights, 7 to 9 notes, 10 drifts, 11 tuned at, 12 the single numbers (hours, filled, leaked, vented, snapped, dropped, stop, why, how many notes) -/
abbrev tyL (cI cZ cS cJ : ClassId) : TY := [(cI, .int), (cZ, .boolean), (cS, .object "RibbonBalloons$State")]
abbrev flX (cI cZ : ClassId) (a0 a1 a2 a3 a4 a5 a6 a7 : Nat) (r0 r1 r2 r3 r4 r5 r6 : Nat → Int32) : va_W := [(a0, .inr (0, [.ref a1, .ref a2, .ref a3, .ref a4, .ref a5, .ref a6, .ref a7])), (a1, .inl (cI, 8, .inl r0)), (a2, .inl (cI, 8, .inl r1)), (a3, .inl (cI, 8, .inl r2)), (a4, .inl (cZ, 7, .inl r3)), (a5, .inl (cI, 7, .inl r4)), (a6, .inl (cI, 7, .inl r5)), (a7, .inl (cI, 8, .inl r6))]
abbrev ntX (cI : ClassId) (a0 a1 a2 a3 : Nat) (r7 r8 r9 : Nat → Int32) (s8 : Int32) : va_W := [(a0, .inr (3, [.ref a1, .ref a2, .ref a3, .int s8])), (a1, .inl (cI, 20, .inl r7)), (a2, .inl (cI, 20, .inl r8)), (a3, .inl (cI, 20, .inl r9))]
abbrev stO (a : Nat → Nat) (s0 s1 s2 s3 s4 s5 s6 s7 : Int32) : va_W := [(a 0, .inr (4, [.ref (a 1), .ref (a 9), .ref (a 13), .ref (a 14), .int s0, .int s1, .int s2, .int s3, .int s4, .int s5, .int s6, .int s7]))]
abbrev daX (cI : ClassId) (a13 a14 : Nat) (r10 r11 : Nat → Int32) : va_W := [(a13, .inl (cI, 8, .inl r10)), (a14, .inl (cI, 8, .inl r11))]
abbrev txC (cI : ClassId) (t0 t1 : Nat) (T : Nat → Int32) (n : Int32) : va_W := [(t0, .inr (5, [.ref t1, .int n])), (t1, .inl (cI, 60, .inl T))]
abbrev fcO (f0 g0 f1 : Nat) (v : Int32) : va_W := [(f0, .inr (1, [.ref g0, .ref f1, .int v]))]
abbrev arC (cI : ClassId) (a n : Nat) (f : Nat → Int32) : va_W := [(a, .inl (cI, n, .inl f))]

/-! calls whose world is the last parts of ours: what comes back may lie at other addresses of the same cells -/
section CALLJ
variable {p : Program} {l : Launch} {e : Env} {R : Room} {s : State} {m : MethodId} {args : Array Value} {below : List Frame} {meth : Method} {c : Code} {H : Heap} {locs : List Loc} {cells slots : Nat} {Q : State → Prop}
variable {cc bytes : ByteArray} {pc : Nat} {ls : Array Slot} {rest st0 As : List Value} {D : va_G} {A : Nat → Prop} {b : Nat} {ty : TY} {Wr Wc : List va_W} {wr wc : va_W} {H0 : Heap} {nL maxL mc ms n index : Nat} {Ts wl : List Cond} {own C : String} {y : MethodName} {ret : Option FieldType} {rm : Room} {U : Type} {φ : U → Prop} {val : U → Option Value} {wo : U → va_W} {Wo : U → List va_W} {hh : List (Nat × Nat × Nat × Nat)}
theorem P_right {wr wc : va_W} (hP : va_P D vwCl (wr ++ wc) H) : va_P D vwCl wc H := P_iff.mpr fun q hq => P_iff.mp hP q (List.mem_append_right _ hq)
theorem P_left {wr wc : va_W} (hP : va_P D vwCl (wr ++ wc) H) : va_P D vwCl wr H := P_iff.mpr fun q hq => P_iff.mp hP q (List.mem_append_left _ hq)
theorem D_right {wr wc : va_W} (hD : va_D A (wr ++ wc)) : va_D A wc := D_iff.mpr ⟨(List.pairwise_append.mp (D_iff.mp hD).1).2.1, fun q hq => (D_iff.mp hD).2 q (List.mem_append_right _ hq)⟩
theorem D_left {wr wc : va_W} (hD : va_D A (wr ++ wc)) : va_D A wr := D_iff.mpr ⟨(List.pairwise_append.mp (D_iff.mp hD).1).1, fun q hq => (D_iff.mp hD).2 q (List.mem_append_left _ hq)⟩
theorem freeJ {wr wc : va_W} (hD : va_D A (wr ++ wc)) (hS : va_S A H0 H locs) (hA : ∀ q, H0.size ≤ q → A q) : ∀ q, va_A wc H.size q → A q := fun q h => by
  rcases A_mem h with ⟨e0, h⟩ | h
  · exact (D_iff.mp hD).2 (q, e0) (List.mem_append_right _ h)
  · exact hA q (Nat.le_trans hS.1 h)
theorem call_genJ (hr : va_Run p l e R s m args below meth c H locs cells slots mc ms (F0 m pc ls st0) rest (QoE D ty H.size wc φ val wo args) (va_A wc H.size)) (hP : va_P D vwCl (wr ++ wc) H) (hD : va_D A (wr ++ wc)) (hS : va_S A H0 H locs) (hA : ∀ q, H0.size ≤ q → A q)
    (kk : ∀ (u : U) (H1 : Heap) (locs1 : List Loc), φ u → va_P D vwCl (wr ++ wo u) H1 → va_D A (wr ++ wo u) → va_S A H0 H1 locs1 → W p l e R s m args below meth c H1 locs1 (cells + mc) (slots + ms) Q (F0 m (pc + 3) ls ((val u).toList ++ rest))) : W p l e R s m args below meth c H locs cells slots Q (F0 m pc ls st0) := by
  have hF := freeJ hD hS hA
  intro T hT X9
  obtain ⟨v0, st₀, t, T', L, h0, X', hL, e1, e2, ⟨⟨u, hu, hv, hP1, hK1, hD1⟩, hz, hk⟩, st⟩ := hr T hT X9
  cases hv
  rw [h0] at hz hk
  rw [← e1] at hz hk hP1
  have far9 := (List.pairwise_append.mp (D_iff.mp hD).1).2.2
  have apart9 : ∀ q ∈ wr, q.1 < H.size ∧ ¬ va_A wc H.size q.1 := fun q hq => by
    have hlt := (P_iff.mp hP q (List.mem_append_left _ hq)).lt
    refine ⟨hlt, fun h => ?_⟩
    rcases A_mem h with ⟨e0, h⟩ | h
    · exact far9 q hq (q.1, e0) h rfl
    · omega
  have hPn : va_P D vwCl (wr ++ wo u) T'.heap := P_iff.mpr fun q hq => by
    rcases List.mem_append.mp hq with h | h
    · exact (P_iff.mp hP q (List.mem_append_left _ h)).kept (hk q.1 (apart9 q h).1 (apart9 q h).2)
    · exact P_iff.mp hP1 q h
  have hDn : va_D A (wr ++ wo u) := D_iff.mpr ⟨List.pairwise_append.mpr ⟨(D_iff.mp (D_left hD)).1, (D_iff.mp hD1).1, fun a ha b hb e0 => (apart9 a ha).2 (by rw [e0]; exact (D_iff.mp hD1).2 b hb)⟩, fun q hq => by
    rcases List.mem_append.mp hq with h | h
    · exact (D_iff.mp (D_left hD)).2 q h
    · exact hF _ ((D_iff.mp hD1).2 q h)⟩
  obtain ⟨t2, a1, b1⟩ := kk u T'.heap (locs ++ L) hu hPn hDn ⟨Nat.le_trans hS.1 hz, fun q h1 h2 => by
      rw [hk q (Nat.lt_of_lt_of_le h1 hS.1) (fun z => h2 (hF q z))]; exact hS.2.1 q h1 h2, fun q hq => by
      rcases List.mem_append.mp hq with h | h
      · exact hS.2.2 q h
      · exact hF _ (hL q h)⟩ T' rfl X'
  exact ⟨t2, st t2 a1, b1⟩
theorem kcallVJ (X : CallFix p m c cc nL s args Ts own) (hc : CE l y wl rm D ty (.ref b :: As) Wc.flatten φ val (fun u => (Wo u).flatten) mc ms) (cw : CallW R s args own C index y bytes maxL ret wl rm mc ms n)
    (hK : va_K D vwCl ty s) (hP : va_P D vwCl (Wr ++ Wc).flatten H) (hD : va_D A (Wr ++ Wc).flatten) (hS : va_S A H0 H locs) (hA : ∀ q, H0.size ≤ q → A q)
    (q0 ci : Nat) {fs : List Value} {T : u_T} {N : Nat} (he : (Wc.flatten)[q0]? = some (b, .inr (ci, fs))) (hcl : vwCl[ci]? = some (C, T, N))
    (hn : As.length = n) (hsz : ls.size = nL) (hst : st0 = As.reverse ++ .ref b :: rest) (hW : (rest.map fun v => v.category).sum ≤ 8) (hdg : decode cc pc = .ok (.invokevirtual index, 3)) (hf : cells + mc ≤ R.cells ∧ slots + ms ≤ R.slots)
    (kk : ∀ (u : U) (H1 : Heap) (locs1 : List Loc), φ u → va_P D vwCl (Wr ++ Wo u).flatten H1 → va_D A (Wr ++ Wo u).flatten → va_S A H0 H1 locs1 → W p l e R s m args below meth c H1 locs1 (cells + mc) (slots + ms) Q (F0 m (pc + 3) ls ((val u).toList ++ rest))) : W p l e R s m args below meth c H locs cells slots Q (F0 m pc ls st0) := by
  have ef : ∀ X : List va_W, (Wr ++ X).flatten = Wr.flatten ++ X.flatten := fun X => by simp
  simp only [ef] at hP hD kk
  have hPc := P_right hP
  exact call_genJ (va_runV (As := As) (rest := rest) (b := b) X (hc H.size) cw ⟨Wd_blind D ty H.size Wc.flatten _, va_recv (q := (C, T, N)) hK hPc hcl he, fun U hU hW => ⟨rfl, by rw [hU], by rw [hU]; exact hPc, va_K.moved hW.alike hK, (D_right hD).weaken (fun _ _ _ _ => trivial)⟩⟩ rfl hn hsz hst (lv_room hW) hdg hf) hP hD hS hA kk
end CALLJ

theorem enc_at0 (A : Nat → Nat → Nat → Int32) {i : Nat} (h : i < 9) : enc A i = A 0 12 i := by
  have e := enc_at A (a := 0) (m := i) (by omega)
  rw [show 130 * 0 + i = i by omega, dcR_s h, dcI_s h] at e
  exact e
theorem uA_uA (B : Nat → Nat → Nat → Int32) (a : Nat) (U V : Nat → Nat → Int32) : uA (uA B a U) a V = uA B a V := by
  funext k
  unfold uA
  by_cases c : k = a
  · rw [if_pos c, if_pos c]
  · rw [if_neg c, if_neg c, if_neg c]
theorem enc_s0 (B : Nat → Nat → Nat → Int32) (U : Nat → Nat → Int32) {i : Nat} (h : i < 9) {v w : Int32} (e : enc (uA B 0 U) i = U 12 i → v = w) (j : Nat) : upd (enc (uA B 0 U)) i v j = enc (uA B 0 (u2 U 12 i w)) j := by
  have e2 := e (by rw [enc_at0 _ h, uA_s])
  subst e2
  have k := enc_us (uA B 0 U) (a := 0) h v
  rw [show 130 * 0 + i = i by omega, uA_uA, uA_s] at k
  exact congrFun k j
theorem enc_r0 (B : Nat → Nat → Nat → Int32) {k w : Nat} (hk : k < 7) (hw : w < 3) (v : Int32) (j : Nat) : upd (enc B) (49 + 3 * k + w) v j = enc (uA B 0 (u2 (B 0) (3 + w) k v)) j := by
  have e := enc_ur B (a := 0) hk hw v
  rw [show 130 * 0 + 49 + 3 * k + w = 49 + 3 * k + w by omega] at e
  exact congrFun e j
theorem upd01 {f : Nat → Int32} {r : Nat} (hT : ∀ q, q < 7 → f q = 0 ∨ f q = 1) {v : Int32} (hv : v = 0 ∨ v = 1) (q : Nat) (hq : q < 7) : upd f r v q = 0 ∨ upd f r v q = 1 := by
  by_cases c : q = r
  · subst c; rw [upd_s]; exact hv
  · rw [upd_n _ _ c]; exact hT q hq

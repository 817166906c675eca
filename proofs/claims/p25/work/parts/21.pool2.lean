theorem vp_nil {D : va_G} {H : Heap} : va_P D vwCl [] H := fun k q h => by simp at h
theorem upr_all {K : Nat → Nat} {L : List Nat} {g : Nat → Option Nat} {n k : Nat} {o : Option Nat} (h : ∀ j, j < n → opr K L 1 (g j)) (ho : opr K L 1 o) : ∀ j, j < n → opr K L 1 (va_up g k o j) := fun j hj => by
  by_cases e : j = k
  · rw [e, va_up_self]; exact ho
  · rw [va_up_ne _ _ e]; exact h j hj
theorem W_nameQ {p : Program} {l : Launch} {e : Env} {R : Room} {s : State} {m : MethodId} {args : Array Value} {below : List Frame} {meth : Method} {c : Code} {H : Heap} {locs : List Loc} {cells slots : Nat} {Q : State → Prop} {g : JFrame} (k : ∀ Q0 : State → Prop, Q0 = Q → W p l e R s m args below meth c H locs cells slots Q0 g) : W p l e R s m args below meth c H locs cells slots Q g := k Q rfl
theorem inc_toInt {x y : Int32} (e : y = x + 1) (h : x.toInt < 2147483647) : y.toInt = x.toInt + 1 := by
  have h1 := Int32.le_toInt x
  rw [e, Int32.toInt_add]
  have e1 : (1 : Int32).toInt = 1 := by decide
  rw [e1]
  exact Int.bmod_eq_of_le (by omega) (by omega)
theorem va_rf_inj {a b : Option Nat} (h : va_rf a = va_rf b) : a = b := by
  cases a <;> cases b <;> simp_all [va_rf]
theorem th_ints {e : va_E} {cn cn2 : Int32} {v v2 : Nat} {b m st i b2 m2 st2 i2 : Option Nat} (h : e = .inr (1, [.int cn, .ref v, va_rf b, va_rf m, va_rf st, va_rf i])) (h2 : e = .inr (1, [.int cn2, .ref v2, va_rf b2, va_rf m2, va_rf st2, va_rf i2])) : i = i2 := by
  have h := h.symm.trans h2
  injection h with h
  injection h with _ h
  injection h with _ h
  injection h with _ h
  injection h with _ h
  injection h with _ h
  injection h with _ h
  injection h with h _
  exact va_rf_inj h
def rowok (f : Nat → va_E) (x : Nat) (r : Int32) : Prop := r.toInt = 0 → ∀ (cn : Int32) (v : Nat) (b m st i : Option Nat), f x = .inr (1, [.int cn, .ref v, va_rf b, va_rf m, va_rf st, va_rf i]) → i ≠ none
/-- only cells of the kinds S have changed -/
def FR (S : Nat → Bool) (K : Nat → Nat) (L : List Nat) (f f2 : Nat → va_E) : Prop := ∀ a, a ∈ L → S (K a) = false → f2 a = f a
theorem fr_up {S : Nat → Bool} {K : Nat → Nat} {L : List Nat} {f f1 : Nat → va_E} {k x : Nat} {e : va_E} (h : FR S K L f f1) (hx : isr K L k x) (hk : S k = true) : FR S K L f (va_up f1 x e) := fun a ha hs => by
  rw [va_up_ne _ _ (fun ea => by rw [ea, hx.2, hk] at hs; cases hs)]
  exact h a ha hs
theorem FR.tr {S S2 : Nat → Bool} {K : Nat → Nat} {L : List Nat} {f f1 f2 : Nat → va_E} (h : FR S K L f f1) (h2 : FR S2 K L f1 f2) (hS : ∀ k, S k = false → S2 k = false) : FR S K L f f2 := fun a ha hs => (h2 a ha (hS _ hs)).trans (h a ha hs)
theorem FR.rf {S : Nat → Bool} {K : Nat → Nat} {L : List Nat} {f : Nat → va_E} : FR S K L f f := fun _ _ _ => rfl
/-- the LeafLists' kinds -/
def sL (k : Nat) : Bool := k == 0 || k == 7 || k == 8
def r01 (r : Int32) : Prop := r = 1 ∨ r = 0

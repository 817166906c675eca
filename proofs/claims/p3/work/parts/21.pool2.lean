theorem vp_nil {D : va_G} {H : Heap} : va_P D vwCl [] H := fun k q h => by simp at h
theorem upr_all {K : Nat → Nat} {L : List Nat} {g : Nat → Option Nat} {n k : Nat} {o : Option Nat} (h : ∀ j, j < n → opr K L 1 (g j)) (ho : opr K L 1 o) : ∀ j, j < n → opr K L 1 (va_up g k o j) := fun j hj => by
  by_cases e : j = k
  · rw [e, va_up_self]; exact ho
  · rw [va_up_ne _ _ e]; exact h j hj
theorem row_len {kI : ClassId} {n m : Nat} {g h : Nat → Int32} (e : (Sum.inl (kI, n, .inl g) : va_E) = .inl (kI, m, .inl h)) : n = m := by
  injection e with e
  injection e with _ e
  injection e
theorem W_nameQ {p : Program} {l : Launch} {e : Env} {R : Room} {s : State} {m : MethodId} {args : Array Value} {below : List Frame} {meth : Method} {c : Code} {H : Heap} {locs : List Loc} {cells slots : Nat} {Q : State → Prop} {g : JFrame} (k : ∀ Q0 : State → Prop, Q0 = Q → W p l e R s m args below meth c H locs cells slots Q0 g) : W p l e R s m args below meth c H locs cells slots Q g := k Q rfl
theorem inc_toInt {x y : Int32} (e : y = x + 1) (h : x.toInt < 2147483647) : y.toInt = x.toInt + 1 := by
  have h1 := Int32.le_toInt x
  rw [e, Int32.toInt_add]
  have e1 : (1 : Int32).toInt = 1 := by decide
  rw [e1]
  exact Int.bmod_eq_of_le (by omega) (by omega)
theorem va_rf_inj {a b : Option Nat} (h : va_rf a = va_rf b) : a = b := by
  cases a <;> cases b <;> simp_all [va_rf]
theorem th_ints {e : va_E} {cn cn2 : Int32} {v v2 : Nat} {b m st i b2 m2 st2 i2 : Option Nat} (h : e = .inr (1, [.int cn, .ref v, va_rf b, va_rf m, va_rf st, va_rf i])) (h2 : e = .inr (1, [.int cn2, .ref v2, va_rf b2, va_rf m2, va_rf st2, va_rf i2])) : i = i2 := by
  have h := h.symm.trans h2
  injection h with h
  injection h with _ h
  injection h with _ h
  injection h with _ h
  injection h with _ h
  injection h with _ h
  injection h with _ h
  injection h with h _
  exact va_rf_inj h
def rowok (f : Nat → va_E) (x : Nat) (r : Int32) : Prop := r.toInt = 0 → ∀ (cn : Int32) (v : Nat) (b m st i : Option Nat), f x = .inr (1, [.int cn, .ref v, va_rf b, va_rf m, va_rf st, va_rf i]) → i ≠ none
/-- only cells of the kinds S have changed -/
def FR (S : Nat → Bool) (K : Nat → Nat) (L : List Nat) (f f2 : Nat → va_E) : Prop := ∀ a, a ∈ L → S (K a) = false → f2 a = f a
theorem fr_up {S : Nat → Bool} {K : Nat → Nat} {L : List Nat} {f f1 : Nat → va_E} {k x : Nat} {e : va_E} (h : FR S K L f f1) (hx : isr K L k x) (hk : S k = true) : FR S K L f (va_up f1 x e) := fun a ha hs => by
  rw [va_up_ne _ _ (fun ea => by rw [ea, hx.2, hk] at hs; cases hs)]
  exact h a ha hs
theorem FR.tr {S S2 : Nat → Bool} {K : Nat → Nat} {L : List Nat} {f f1 f2 : Nat → va_E} (h : FR S K L f f1) (h2 : FR S2 K L f1 f2) (hS : ∀ k, S k = false → S2 k = false) : FR S K L f f2 := fun a ha hs => (h2 a ha (hS _ hs)).trans (h a ha hs)
theorem FR.rf {S : Nat → Bool} {K : Nat → Nat} {L : List Nat} {f : Nat → va_E} : FR S K L f f := fun _ _ _ => rfl
/-- the LeafLists' kinds -/
def sL (k : Nat) : Bool := k == 0 || k == 7 || k == 8
def r01 (r : Int32) : Prop := r = 1 ∨ r = 0
theorem fold2 {kT kI kJ : ClassId} {K : Nat → Nat} {L : List Nat} {f : Nat → va_E} {D : va_G} {H : Heap} {A : Nat → Prop} {q u : Nat} {cn : Int32} {g : Nat → Int64} (hPI : PI kT kI kJ K L f) (hP : va_P D vwCl ((q, .inr (1, [.int cn, .ref u, .null, .null, .null, .null])) :: (u, .inl (kJ, 17, .inr (.inl g))) :: va_pl L f) H) (hD : va_D A ((q, .inr (1, [.int cn, .ref u, .null, .null, .null, .null])) :: (u, .inl (kJ, 17, .inr (.inl g))) :: va_pl L f)) : ∃ (K2 : Nat → Nat) (L2 : List Nat) (f2 : Nat → va_E), PI kT kI kJ K2 L2 f2 ∧ EXT K L K2 L2 ∧ isr K2 L2 1 q ∧ (∀ a, a ∈ L → f2 a = f a) ∧ va_P D vwCl (va_pl L2 f2) H ∧ va_D A (va_pl L2 f2) := by
  have hu : u ∉ L := fun h => by
    obtain ⟨i, hi⟩ := List.getElem?_of_mem (show (u, f u) ∈ va_pl L f from List.mem_map.mpr ⟨u, h, rfl⟩)
    have := hD.1 1 (i + 2) _ _ rfl hi rfl
    omega
  have hq : q ∉ u :: L := fun h => by
    rcases List.mem_cons.mp h with h | h
    · have := hD.1 0 1 _ _ rfl rfl h
      omega
    · obtain ⟨i, hi⟩ := List.getElem?_of_mem (show (q, f q) ∈ va_pl L f from List.mem_map.mpr ⟨q, h, rfl⟩)
      have := hD.1 0 (i + 2) _ _ rfl hi rfl
      omega
  rw [pl_cons hu, pl_cons hq] at hP hD
  refine ⟨_, _, _, (hPI.push (k := 3) hu ⟨g, rfl⟩).push (k := 1) hq ⟨cn, u, none, none, none, none, rfl, isr.ext isr.new (EXT.new hq), (fun _ h => by cases h), (fun _ h => by cases h), (fun _ h => by cases h), (fun _ h => by cases h)⟩, EXT.tr (EXT.new hu) (EXT.new hq), isr.new, fun a ha => (va_up_ne _ _ (fun e => hq (by rw [← e]; exact List.mem_cons_of_mem _ ha))).trans (va_up_ne _ _ (fun e => hu (by rw [← e]; exact ha))), hP, hD⟩
theorem fold1 {kT kI kJ : ClassId} {K : Nat → Nat} {L : List Nat} {f : Nat → va_E} {D : va_G} {H : Heap} {A : Nat → Prop} {q n : Nat} {g : Nat → Int32} (hPI : PI kT kI kJ K L f) (hn : n ≤ 20) (hP : va_P D vwCl (va_pl L f ++ [(q, .inl (kI, n, .inl g))]) H) (hD : va_D A (va_pl L f ++ [(q, .inl (kI, n, .inl g))])) : ∃ (K2 : Nat → Nat) (L2 : List Nat) (f2 : Nat → va_E), PI kT kI kJ K2 L2 f2 ∧ EXT K L K2 L2 ∧ isr K2 L2 4 q ∧ (∀ a, a ∈ L → f2 a = f a) ∧ va_P D vwCl (va_pl L2 f2) H ∧ va_D A (va_pl L2 f2) := by
  have hq := pl_new hD
  have hP := wp_rot hP
  have hD := wd_rot hD
  rw [pl_cons hq] at hP hD
  exact ⟨_, _, _, hPI.push (k := 4) hq ⟨n, g, rfl, hn⟩, EXT.new hq, isr.new, fun a ha => va_up_ne _ _ (fun e => hq (by rw [← e]; exact ha)), hP, hD⟩

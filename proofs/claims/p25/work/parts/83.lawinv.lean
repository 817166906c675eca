-- THE LAW'S STATE: the class's pool and the reference's, side by side
def DJ (U V : va_W) : Prop := ∀ p ∈ U, ∀ q ∈ V, p.1 ≠ q.1
section DJS
variable {D : va_G} {cl : List vw_C} {U V V' : va_W} {H H1 : Heap} {A : Nat → Prop}
theorem DJ.symm (h : DJ U V) : DJ V U := fun p hp q hq e => h q hq p hp e.symm
theorem wp_lt (hP : va_P D cl U H) {p : Nat × va_E} (hp : p ∈ U) : p.1 < H.size := by
  obtain ⟨k, hk⟩ := List.getElem?_of_mem hp
  exact (hP k p hk).lt
theorem dj_A (hP : va_P D cl U H) (hd : DJ U V) {p : Nat × va_E} (hp : p ∈ U) : ¬ va_A V H.size p.1 := fun h => by
  rcases h with ⟨k, e, h⟩ | h
  · exact hd p hp _ (List.mem_of_getElem? h) rfl
  · exact absurd (wp_lt hP hp) (Nat.not_lt.mpr h)
theorem dj_keep (hP : va_P D cl U H) (hd : DJ U V) (hk : ∀ q : Nat, q < H.size → ¬ va_A V H.size q → H1[q]? = H[q]?) : va_P D cl U H1 :=
  hP.kept (fun k q h => hk q.1 (hP k q h).lt (dj_A hP hd (List.mem_of_getElem? h)))
theorem dj_new (hP : va_P D cl U H) (hd : DJ U V) (hD : va_D (va_A V H.size) V') : DJ U V' := fun p hp q hq e => by
  obtain ⟨k, hk⟩ := List.getElem?_of_mem hq
  have h := hD.2 k q hk
  rw [← e] at h
  exact dj_A hP hd hp h
theorem dj_app (h : va_D A (U ++ V)) : DJ U V := fun p hp q hq e => by
  obtain ⟨i, hi⟩ := List.getElem?_of_mem hp
  obtain ⟨j, hj⟩ := List.getElem?_of_mem hq
  have li := (List.getElem?_eq_some_iff.mp hi).1
  have h1 : (U ++ V)[i]? = some p := by rw [List.getElem?_append_left li]; exact hi
  have h2 : (U ++ V)[U.length + j]? = some q := by rw [List.getElem?_append_right (by omega), Nat.add_sub_cancel_left]; exact hj
  have := h.1 _ _ _ _ h1 h2 e
  omega
theorem wp_left (h : va_P D cl (U ++ V) H) : va_P D cl U H := fun k q hk => h k q (by rw [List.getElem?_append_left (List.getElem?_eq_some_iff.mp hk).1]; exact hk)
theorem wp_right (h : va_P D cl (U ++ V) H) : va_P D cl V H := fun k q hk => h (U.length + k) q (by rw [List.getElem?_append_right (by omega), Nat.add_sub_cancel_left]; exact hk)
theorem wd_left (h : va_D A (U ++ V)) : va_D A U := ⟨fun i j p q hi hj e => h.1 i j p q (by rw [List.getElem?_append_left (List.getElem?_eq_some_iff.mp hi).1]; exact hi) (by rw [List.getElem?_append_left (List.getElem?_eq_some_iff.mp hj).1]; exact hj) e, fun k q hk => h.2 k q (by rw [List.getElem?_append_left (List.getElem?_eq_some_iff.mp hk).1]; exact hk)⟩
theorem wd_right (h : va_D A (U ++ V)) : va_D A V := ⟨fun i j p q hi hj e => by
  have := h.1 (U.length + i) (U.length + j) p q (by rw [List.getElem?_append_right (by omega), Nat.add_sub_cancel_left]; exact hi) (by rw [List.getElem?_append_right (by omega), Nat.add_sub_cancel_left]; exact hj) e
  omega, fun k q hk => h.2 (U.length + k) q (by rw [List.getElem?_append_right (by omega), Nat.add_sub_cancel_left]; exact hk)⟩
end DJS
def RJ (kI kJ kZ : ClassId) (K : Nat → Nat) (L : List Nat) (f : Nat → va_E) (g0 nE nJ : Nat) : Prop := PR kI kJ kZ K L f ∧ UN K L ∧ isr K L 10 g0 ∧ XL kI kJ K L f 23 24 ∧ XL kI kJ K L f 19 20 ∧ OR kI K L f 18 8 ∧ GX kI kJ K L f nE (24 * nJ)
section RJS
variable {kI kJ kZ : ClassId} {K : Nat → Nat} {L : List Nat} {f f2 : Nat → va_E} {g0 nE nJ : Nat} {S : Nat → Bool}
/-- a call that leaves slots, classes, fields, leaves and the object alone -/
theorem RJ.fr (h : RJ kI kJ kZ K L f g0 nE nJ) (hP : PR kI kJ kZ K L f2) (hfr : FR S K L f f2) (h10 : S 10 = false) (h18 : S 18 = false) (h19 : S 19 = false) (h20 : S 20 = false) (h23 : S 23 = false) (h24 : S 24 = false) {nE2 nJ2 : Nat} (hG : GX kI kJ K L f2 nE2 (24 * nJ2)) : RJ kI kJ kZ K L f2 g0 nE2 nJ2 := ⟨hP, h.2.1, h.2.2.1, h.2.2.2.1.fr hfr h23 h24, h.2.2.2.2.1.fr hfr h19 h20, h.2.2.2.2.2.1.fr hfr h10 h18, hG⟩
end RJS
theorem gj_1 {nJ : Nat} : 24 * (nJ + 1) = 24 * nJ + 24 := by omega


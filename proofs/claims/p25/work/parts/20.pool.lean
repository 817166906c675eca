-- THE CLASS'S HEAP, TYPED: K tells each cell's kind (0 LeafList, 1 Thing, 2 FieldLeaves, 3 long[17], 4 a row of at most 20 ints, 5 Thing[12], 6 Thing[24], 7 int[300], 8 long[300]), L the addresses, f the cells
def isr (K : Nat → Nat) (L : List Nat) (k x : Nat) : Prop := x ∈ L ∧ K x = k
def opr (K : Nat → Nat) (L : List Nat) (k : Nat) (o : Option Nat) : Prop := ∀ x, o = some x → isr K L k x
def ok1 (K : Nat → Nat) (L : List Nat) (e : va_E) : Prop := ∃ (cn : Int32) (v : Nat) (b m st i : Option Nat), e = .inr (1, [.int cn, .ref v, va_rf b, va_rf m, va_rf st, va_rf i]) ∧ isr K L 3 v ∧ opr K L 1 b ∧ opr K L 1 m ∧ opr K L 1 st ∧ opr K L 4 i
def ok2 (K : Nat → Nat) (L : List Nat) (e : va_E) : Prop := ∃ (q1 : Nat) (pc : Int32) (c1 c2 c3 q5 : Nat) (fc : Int32) (q7 : Nat) (mc : Int32), e = .inr (2, [.ref q1, .int pc, .ref c1, .ref c2, .ref c3, .ref q5, .int fc, .ref q7, .int mc]) ∧ isr K L 5 q1 ∧ isr K L 0 c1 ∧ isr K L 0 c2 ∧ isr K L 0 c3 ∧ isr K L 6 q5 ∧ (0 ≤ fc.toInt ∧ fc.toInt ≤ 24) ∧ isr K L 6 q7 ∧ (0 ≤ mc.toInt ∧ mc.toInt ≤ 24)
def ok0 (K : Nat → Nat) (L : List Nat) (e : va_E) : Prop := ∃ (n d v : Nat) (z : Int32), e = .inr (0, [.ref n, .ref d, .ref v, .int z]) ∧ isr K L 7 n ∧ isr K L 7 d ∧ isr K L 8 v ∧ (0 ≤ z.toInt ∧ z.toInt ≤ 300)
def okJ (kJ : ClassId) (n : Nat) (e : va_E) : Prop := ∃ g : Nat → Int64, e = .inl (kJ, n, .inr (.inl g))
def ok4 (kI : ClassId) (e : va_E) : Prop := ∃ (n : Nat) (g : Nat → Int32), e = .inl (kI, n, .inl g) ∧ n ≤ 20
def ok7 (kI : ClassId) (e : va_E) : Prop := ∃ g : Nat → Int32, e = .inl (kI, 300, .inl g)
def okA (kT : ClassId) (n : Nat) (K : Nat → Nat) (L : List Nat) (e : va_E) : Prop := ∃ g : Nat → Option Nat, e = .inl (kT, n, .inr (.inr (.inr (.inr g)))) ∧ ∀ j, j < n → opr K L 1 (g j)
def okc (kT kI kJ : ClassId) (K : Nat → Nat) (L : List Nat) (k : Nat) (e : va_E) : Prop := match k with
  | 0 => ok0 K L e
  | 1 => ok1 K L e
  | 2 => ok2 K L e
  | 3 => okJ kJ 17 e
  | 4 => ok4 kI e
  | 5 => okA kT 12 K L e
  | 6 => okA kT 24 K L e
  | 7 => ok7 kI e
  | 8 => okJ kJ 300 e
  | _ => False
def PI (kT kI kJ : ClassId) (K : Nat → Nat) (L : List Nat) (f : Nat → va_E) : Prop := ∀ a, a ∈ L → okc kT kI kJ K L (K a) (f a)
def EXT (K : Nat → Nat) (L : List Nat) (K' : Nat → Nat) (L' : List Nat) : Prop := ∀ a, a ∈ L → a ∈ L' ∧ K' a = K a
section TYP
variable {kT kI kJ : ClassId} {K K' : Nat → Nat} {L L' : List Nat} {f : Nat → va_E} {x k q : Nat} {e : va_E}
theorem PI.at (h : PI kT kI kJ K L f) (hx : isr K L k x) : okc kT kI kJ K L k (f x) := by
  have := h x hx.1
  rw [hx.2] at this
  exact this
theorem PI.a0 (h : PI kT kI kJ K L f) (hx : isr K L 0 x) : ok0 K L (f x) := h.at hx
theorem PI.a1 (h : PI kT kI kJ K L f) (hx : isr K L 1 x) : ok1 K L (f x) := h.at hx
theorem PI.a2 (h : PI kT kI kJ K L f) (hx : isr K L 2 x) : ok2 K L (f x) := h.at hx
theorem PI.a3 (h : PI kT kI kJ K L f) (hx : isr K L 3 x) : okJ kJ 17 (f x) := h.at hx
theorem PI.a4 (h : PI kT kI kJ K L f) (hx : isr K L 4 x) : ok4 kI (f x) := h.at hx
theorem PI.a5 (h : PI kT kI kJ K L f) (hx : isr K L 5 x) : okA kT 12 K L (f x) := h.at hx
theorem PI.a6 (h : PI kT kI kJ K L f) (hx : isr K L 6 x) : okA kT 24 K L (f x) := h.at hx
theorem PI.a7 (h : PI kT kI kJ K L f) (hx : isr K L 7 x) : ok7 kI (f x) := h.at hx
theorem PI.a8 (h : PI kT kI kJ K L f) (hx : isr K L 8 x) : okJ kJ 300 (f x) := h.at hx
theorem PI.put (h : PI kT kI kJ K L f) (hx : isr K L k x) (he : okc kT kI kJ K L k e) : PI kT kI kJ K L (va_up f x e) := fun a ha => by
  by_cases ea : a = x
  · subst ea
    rw [va_up_self, hx.2]
    exact he
  · rw [va_up_ne _ _ ea]
    exact h a ha
theorem isr.ext (h : isr K L k x) (hE : EXT K L K' L') : isr K' L' k x := ⟨(hE x h.1).1, (hE x h.1).2.trans h.2⟩
theorem opr.ext {o : Option Nat} (h : opr K L k o) (hE : EXT K L K' L') : opr K' L' k o := fun x e => (h x e).ext hE
theorem okc.ext (h : okc kT kI kJ K L k e) (hE : EXT K L K' L') : okc kT kI kJ K' L' k e := by
  unfold okc at h ⊢
  split at h <;> try exact h
  · obtain ⟨n, d, v, z, e, h1, h2, h3, h4⟩ := h
    exact ⟨n, d, v, z, e, h1.ext hE, h2.ext hE, h3.ext hE, h4⟩
  · obtain ⟨cn, v, b, m, st, i, e, h1, h2, h3, h4, h5⟩ := h
    exact ⟨cn, v, b, m, st, i, e, h1.ext hE, h2.ext hE, h3.ext hE, h4.ext hE, h5.ext hE⟩
  · obtain ⟨q1, pc, c1, c2, c3, q5, fc, q7, mc, e, h1, h2, h3, h4, h5, h6, h7, h8⟩ := h
    exact ⟨q1, pc, c1, c2, c3, q5, fc, q7, mc, e, h1.ext hE, h2.ext hE, h3.ext hE, h4.ext hE, h5.ext hE, h6, h7.ext hE, h8⟩
  · obtain ⟨g, e, h1⟩ := h
    exact ⟨g, e, fun j hj => (h1 j hj).ext hE⟩
  · obtain ⟨g, e, h1⟩ := h
    exact ⟨g, e, fun j hj => (h1 j hj).ext hE⟩
theorem EXT.rf : EXT K L K L := fun _ h => ⟨h, rfl⟩
theorem EXT.tr {K2 : Nat → Nat} {L2 : List Nat} (h : EXT K L K' L') (h2 : EXT K' L' K2 L2) : EXT K L K2 L2 := fun a ha => ⟨(h2 a (h a ha).1).1, ((h2 a (h a ha).1).2).trans (h a ha).2⟩
theorem EXT.new (hq : q ∉ L) : EXT K L (va_up K q k) (q :: L) := fun a ha => ⟨List.mem_cons_of_mem _ ha, va_up_ne _ _ (fun e => hq (e ▸ ha))⟩
theorem isr.new : isr (va_up K q k) (q :: L) k q := ⟨List.mem_cons_self, va_up_self _ _ _⟩
theorem PI.push (h : PI kT kI kJ K L f) (hq : q ∉ L) (he : okc kT kI kJ (va_up K q k) (q :: L) k e) : PI kT kI kJ (va_up K q k) (q :: L) (va_up f q e) := fun a ha => by
  rcases List.mem_cons.mp ha with ea | ha
  · subst ea
    rw [va_up_self, va_up_self]
    exact he
  · have ne : a ≠ q := fun ea => hq (ea ▸ ha)
    rw [va_up_ne _ _ ne, va_up_ne _ _ ne]
    exact (h a ha).ext (EXT.new hq)
theorem va_plg (hx : x ∈ L) (he : f x = e) : ∃ k : Nat, (va_pl L f)[k]? = some (x, e) := by
  obtain ⟨k, hk⟩ := va_pl_get (X := []) (f := f) hx
  exact ⟨k, by rw [← he]; exact hk⟩
theorem va_pls {A : Nat → Prop} {k : Nat} {e0 : va_E} (hD : va_D A (va_pl L f)) (hx : x ∈ L) (hk : (va_pl L f)[k]? = some (x, e0)) (e : va_E) : (va_pl L f).set k (x, e) = va_pl L (va_up f x e) := by
  have h0 : e0 = f x := by
    obtain ⟨a, _, h2⟩ := List.mem_map.mp (List.mem_of_getElem? hk)
    cases h2
    rfl
  rw [h0] at hk
  exact va_pl_set (X := []) hD hx hk
theorem pl_cons (hq : q ∉ L) : (q, e) :: va_pl L f = va_pl (q :: L) (va_up f q e) := by
  show _ = (q, va_up f q e q) :: L.map (fun a => (a, va_up f q e a))
  rw [va_up_self]
  congr 1
  refine List.map_congr_left (fun a ha => ?_)
  have ne : a ≠ q := fun ea => hq (by rw [← ea]; exact ha)
  rw [va_up_ne f e ne]
theorem wp_rot {D : va_G} {cl : List vw_C} {pl : va_W} {y : Nat × va_E} {H : Heap} (h : va_P D cl (pl ++ [y]) H) : va_P D cl (y :: pl) H := fun k z hk => by
  have hm : z ∈ pl ++ [y] := by
    rcases List.mem_cons.mp (List.mem_of_getElem? hk) with e | e
    · exact List.mem_append_right _ (by rw [e]; exact List.mem_singleton_self _)
    · exact List.mem_append_left _ e
  obtain ⟨i, hi⟩ := List.getElem?_of_mem hm
  exact h i z hi
theorem wd_rot {A : Nat → Prop} {pl : va_W} {y : Nat × va_E} (h : va_D A (pl ++ [y])) : va_D A (y :: pl) := by
  refine h.by (fun k => if k = 0 then pl.length else k - 1) (fun k z hk => ?_) (fun i j hi hj e => ?_)
  · cases k with
    | zero =>
      show (pl ++ [y])[if 0 = 0 then pl.length else 0 - 1]? = some z
      rw [if_pos rfl, List.getElem?_append_right (Nat.le_refl _), Nat.sub_self]
      exact hk
    | succ k =>
      have hl : k < pl.length := (List.getElem?_eq_some_iff.mp (show pl[k]? = some z from hk)).1
      show (pl ++ [y])[if k + 1 = 0 then pl.length else k + 1 - 1]? = some z
      rw [if_neg (Nat.succ_ne_zero k), Nat.add_sub_cancel, List.getElem?_append_left hl]
      exact hk
  · simp only [List.length_cons] at hi hj
    have e : (if i = 0 then pl.length else i - 1) = (if j = 0 then pl.length else j - 1) := e
    split at e <;> split at e <;> omega
theorem pl_free {A : Nat → Prop} {ws : va_W} {H0 H : Heap} {locs : List Loc} (hD : va_D A ws) (hS : va_S A H0 H locs) (hA : ∀ q : Nat, H0.size ≤ q → A q) : ∀ q, va_A ws H.size q → A q := fun q h => by
  rcases h with ⟨k, e, h⟩ | h
  · exact hD.2 k (q, e) h
  · exact hA q (Nat.le_trans hS.1 h)
theorem pl_new {A : Nat → Prop} {y : va_E} (hD : va_D A (va_pl L f ++ [(q, y)])) : q ∉ L := va_pl_fresh2 (X := []) hD
end TYP
/-- rows of one type have one class -/
theorem ty_one {D : va_G} {cl : List vw_C} {tys : List (ClassId × FieldType)} {U : State} {a b : ClassId} (hK : va_K D cl tys U) (i j : Nat) {ty : FieldType} (hi : tys[i]? = some (a, ty)) (hj : tys[j]? = some (b, ty)) (hp : ty = .int ∨ ty = .long) : a = b := by
  have h1 := (hK.2 i _ hi).2
  have h2 := (hK.2 j _ hj).2
  rcases hp with rfl | rfl
  · exact Option.some.inj (h1.symm.trans h2)
  · exact Option.some.inj (h1.symm.trans h2)
theorem nI_len {n : Nat} (h : n ≤ 20) : (Int32.ofNat n).toInt = (n : Int) := nI_toInt (n := n) (by omega)
theorem isr_ne {K : Nat → Nat} {L : List Nat} {k j x y : Nat} (hx : isr K L k x) (hy : isr K L j y) (h : k ≠ j) : x ≠ y := fun e => h (by rw [← hx.2, ← hy.2, e])


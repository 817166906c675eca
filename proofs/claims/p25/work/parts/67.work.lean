-- THE PILE of lookWhatIsHeld: z marks, p the pile of height top, s slots looked at, o the object whose links below g have been looked at
def WL (fS fC : Nat → Int32) (fF : Nat → Int64) (z p : Nat → Int32) (top s : Int) (o : Nat) (g : Int) : Prop := (0 ≤ top ∧ top ≤ (cnt z 6400 : Int)) ∧ (∀ i : Nat, (i : Int) < top → z (p i).toInt.toNat ≠ 0) ∧ (∀ j : Nat, j < 12 → (j : Int) < s → ¬ (fS j).toInt = -1 → z (fS j).toInt.toNat ≠ 0) ∧ (∀ P : Nat → Prop, CL fS fC fF P → ∀ x, x < 6400 → z x ≠ 0 → P x) ∧ ∀ x, x < 6400 → z x ≠ 0 → (∃ i : Nat, (i : Int) < top ∧ (p i).toInt = (x : Int)) ∨ (∀ f, lnk fC fF x f → z (tgt fF x f) ≠ 0) ∨ (x = o ∧ ∀ f : Nat, (f : Int) < g → lnk fC fF x f → z (tgt fF x f) ≠ 0)
section WORK
variable {fS fC : Nat → Int32} {fF : Nat → Int64} {z p : Nat → Int32} {top s g : Int} {o : Nat}
theorem wl_0 (hz : ∀ j, j < 6400 → z j = 0) : WL fS fC fF z p 0 0 6400 0 := ⟨⟨Int.le_refl _, by omega⟩, fun i h => by omega, fun j _ h => by omega, fun P _ x hx h => absurd (hz x hx) h, fun x hx h => absurd (hz x hx) h⟩
theorem upd_ne0 {x y : Nat} {v : Int32} (hv : v ≠ 0) (h : z y ≠ 0) : upd z x v y ≠ 0 := by
  by_cases e : y = x
  · rw [e, pk_us]; exact hv
  · rw [pk_un e]; exact h
theorem wl_push {x : Nat} {v xv : Int32} (h : WL fS fC fF z p top s o g) (hx : x < 6400) (hz : z x = 0) (hv : v ≠ 0) (hxv : xv.toInt = (x : Int)) (hP : ∀ P : Nat → Prop, CL fS fC fF P → P x) : WL fS fC fF (upd z x v) (upd p top.toNat xv) (top + 1) s o g := by
  obtain ⟨⟨h1, h2⟩, h3, h4, h5, h6⟩ := h
  have hc := cnt_upd hz hv 6400 hx
  refine ⟨⟨by omega, by omega⟩, fun i hi => ?_, fun j hj hs hn => upd_ne0 hv (h4 j hj hs hn), fun P hC y hy hn => ?_, fun y hy hn => ?_⟩
  · by_cases e : i = top.toNat
    · rw [e, pk_us, hxv]
      show upd z x v (x : Int).toNat ≠ 0
      rw [Int.toNat_natCast, pk_us]
      exact hv
    · rw [pk_un e]
      exact upd_ne0 hv (h3 i (by omega))
  · by_cases e : y = x
    · subst e; exact hP P hC
    · rw [pk_un e] at hn
      exact h5 P hC y hy hn
  · by_cases e : y = x
    · subst e
      exact Or.inl ⟨top.toNat, by omega, by rw [pk_us]; exact hxv⟩
    · rw [pk_un e] at hn
      rcases h6 y hy hn with ⟨i, hi, e2⟩ | h | ⟨e2, h⟩
      · exact Or.inl ⟨i, by omega, by rw [pk_un (by omega)]; exact e2⟩
      · exact Or.inr (Or.inl fun f hl => upd_ne0 hv (h f hl))
      · exact Or.inr (Or.inr ⟨e2, fun f hf hl => upd_ne0 hv (h f hf hl)⟩)
theorem wl_slot {k : Nat} (h : WL fS fC fF z p top s o g) (hk : (k : Int) = s) (hs : ¬ (fS k).toInt = -1 → z (fS k).toInt.toNat ≠ 0) : WL fS fC fF z p top (s + 1) o g := by
  obtain ⟨h1, h3, h4, h5, h6⟩ := h
  refine ⟨h1, h3, fun j hj hjs hn => ?_, h5, h6⟩
  by_cases e : j = k
  · subst e; exact hs hn
  · exact h4 j hj (by omega) hn
theorem wl_pop {t : Nat} {ov : Int32} (h : WL fS fC fF z p top s 6400 0) (ht : (t : Int) + 1 = top) (e : ov = p t) (h0 : 0 ≤ ov.toInt) : WL fS fC fF z p (t : Int) s ov.toInt.toNat 8 := by
  obtain ⟨⟨h1, h2⟩, h3, h4, h5, h6⟩ := h
  refine ⟨⟨by omega, by omega⟩, fun i hi => h3 i (by omega), h4, h5, fun x hx hn => ?_⟩
  rcases h6 x hx hn with ⟨i, hi, e2⟩ | h | ⟨e2, h⟩
  · by_cases ei : i = t
    · subst ei
      rw [← e] at e2
      refine Or.inr (Or.inr ⟨by omega, fun f hf hl => ?_⟩)
      have := hl.1
      unfold lkf at this
      omega
    · exact Or.inl ⟨i, by omega, e2⟩
  · exact Or.inr (Or.inl h)
  · omega
theorem wl_link {k : Nat} (h : WL fS fC fF z p top s o g) (hk : (k : Int) = g) (hl : lnk fC fF o k → z (tgt fF o k) ≠ 0) : WL fS fC fF z p top s o (g + 1) := by
  obtain ⟨h1, h3, h4, h5, h6⟩ := h
  refine ⟨h1, h3, h4, h5, fun x hx hn => ?_⟩
  rcases h6 x hx hn with h | h | ⟨e2, h⟩
  · exact Or.inl h
  · exact Or.inr (Or.inl h)
  · refine Or.inr (Or.inr ⟨e2, fun f hf hl2 => ?_⟩)
    by_cases e : f = k
    · subst e; subst e2; exact hl hl2
    · exact h f (by omega) hl2
theorem wl_done (h : WL fS fC fF z p top s o 16) : WL fS fC fF z p top s 6400 0 := by
  obtain ⟨h1, h3, h4, h5, h6⟩ := h
  refine ⟨h1, h3, h4, h5, fun x hx hn => ?_⟩
  rcases h6 x hx hn with h | h | ⟨e2, h⟩
  · exact Or.inl h
  · exact Or.inr (Or.inl h)
  · refine Or.inr (Or.inl fun f hl => h f ?_ hl)
    have := hl.1
    unfold lkf at this
    omega
theorem wl_end (h : WL fS fC fF z p 0 12 6400 0) : MK fS fC fF z := by
  obtain ⟨h1, h3, h4, h5, h6⟩ := h
  refine ⟨fun j hj hs => h4 j hj (by omega) hs, fun x f hx hn hl => ?_, h5⟩
  rcases h6 x hx hn with ⟨i, hi, -⟩ | h | ⟨e2, -⟩
  · omega
  · exact h f hl
  · omega
/-- where something is unmarked the pile has room -/
theorem wl_room {x : Nat} (h : WL fS fC fF z p top s o g) (hx : x < 6400) (hz : z x = 0) : top < 6400 := by
  have := cnt_lt hz 6400 hx
  have := h.1
  omega
theorem wl_P {x : Nat} (h : WL fS fC fF z p top s o g) (hx : x < 6400) (hn : z x ≠ 0) : ∀ P : Nat → Prop, CL fS fC fF P → P x := fun P hC => h.2.2.2.1 P hC x hx hn
theorem wl_m {x : Nat} {v : Int32} (hx : x < 6400) (hz : z x = 0) (hv : v ≠ 0) : 6400 - cnt (upd z x v) 6400 + 1 = 6400 - cnt z 6400 := by
  have h1 := cnt_upd hz hv 6400 hx
  have h2 := cnt_le (upd z x v) 6400
  omega
end WORK
/-- the marks' row -/
def ZV (kZ : ClassId) (K : Nat → Nat) (L : List Nat) (f : Nat → va_E) (z : Nat → Int32) : Prop := ∀ q, isr K L 16 q → f q = .inl (kZ, 6400, .inl z)
def PV (kI : ClassId) (K : Nat → Nat) (L : List Nat) (f : Nat → va_E) (z : Nat → Int32) : Prop := ∀ q, isr K L 17 q → f q = .inl (kI, 6400, .inl z)
theorem ZV.mk {kZ : ClassId} {K : Nat → Nat} {L : List Nat} {f : Nat → va_E} {z : Nat → Int32} {q : Nat} (hU : UN K L) (i : isr K L 16 q) (e : f q = .inl (kZ, 6400, .inl z)) : ZV kZ K L f z := fun q2 h => by
  rw [← hU q q2 i.1 h.1 (i.2.trans h.2.symm)]; exact e
theorem PV.mk {kI : ClassId} {K : Nat → Nat} {L : List Nat} {f : Nat → va_E} {z : Nat → Int32} {q : Nat} (hU : UN K L) (i : isr K L 17 q) (e : f q = .inl (kI, 6400, .inl z)) : PV kI K L f z := fun q2 h => by
  rw [← hU q q2 i.1 h.1 (i.2.trans h.2.symm)]; exact e


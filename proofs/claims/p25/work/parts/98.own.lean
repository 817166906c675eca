-- WHO OWNS A ROW: a list its three, an object its values and its ints
def OWN (K : Nat → Nat) (L : List Nat) (f : Nat → va_E) (ow : Nat → Nat) : Prop := (∀ x, isr K L 0 x → ow (cP (f x) 0) = 2 * x ∧ ow (cP (f x) 1) = 2 * x + 1 ∧ ow (cP (f x) 2) = x) ∧ ∀ t, isr K L 1 t → ow (cP (f t) 1) = t ∧ ∀ r, cR (f t) 5 = some r → ow r = t
def LSt (f : Nat → va_E) (x : Nat) (l : List (Int32 × Int32 × Int64)) : Prop := LSv (l_z f x) (l_n f x) (l_d f x) (l_v f x) l
/-- only the list y and its rows have changed; it holds the same rows -/
def TL (K : Nat → Nat) (L : List Nat) (ow : Nat → Nat) (y : Nat) (f f2 : Nat → va_E) : Prop := (∀ a, a ∈ L → ¬ (a = y ∨ (K a = 7 ∧ (ow a = 2 * y ∨ ow a = 2 * y + 1)) ∨ (K a = 8 ∧ ow a = y)) → f2 a = f a) ∧ cP (f2 y) 0 = cP (f y) 0 ∧ cP (f2 y) 1 = cP (f y) 1 ∧ cP (f2 y) 2 = cP (f y) 2
section OWNS
variable {kT kI kJ : ClassId} {K : Nat → Nat} {L : List Nat} {f f1 f2 : Nat → va_E} {ow : Nat → Nat} {x y a t : Nat} {l : List (Int32 × Int32 × Int64)}
theorem TL.rf : TL K L ow y f f := ⟨fun _ _ _ => rfl, rfl, rfl, rfl⟩
theorem TL.tr (h : TL K L ow y f f1) (h2 : TL K L ow y f1 f2) : TL K L ow y f f2 := ⟨fun a ha hn => (h2.1 a ha hn).trans (h.1 a ha hn), h2.2.1.trans h.2.1, h2.2.2.1.trans h.2.2.1, h2.2.2.2.trans h.2.2.2⟩
theorem TL.at (h : TL K L ow y f f2) (hy : isr K L 0 y) {k : Nat} (ha : isr K L k a) (hk : ¬ k = 0 ∧ ¬ k = 7 ∧ ¬ k = 8) : f2 a = f a := h.1 a ha.1 (fun hn => by
  rcases hn with e | ⟨e, -⟩ | ⟨e, -⟩
  · exact isr_ne ha hy hk.1 e
  · rw [ha.2] at e; exact hk.2.1 e
  · rw [ha.2] at e; exact hk.2.2 e)
theorem TL.fr (h : TL K L ow y f f2) (hy : isr K L 0 y) : FR sL K L f f2 := fun a ha hs => h.1 a ha (fun hn => by
  rcases hn with e | ⟨e, -⟩ | ⟨e, -⟩
  · subst e; rw [hy.2] at hs; cases hs
  · rw [e] at hs; cases hs
  · rw [e] at hs; cases hs)
theorem TL.li (h : TL K L ow y f f2) (hx : isr K L 0 x) (hne : x ≠ y) : f2 x = f x := h.1 x hx.1 (fun hn => by
  rcases hn with e | ⟨e, -⟩ | ⟨e, -⟩
  · exact hne e
  · rw [hx.2] at e; cases e
  · rw [hx.2] at e; cases e)
theorem TL.own (h : TL K L ow y f f2) (hy : isr K L 0 y) (hO : OWN K L f ow) : OWN K L f2 ow := by
  refine ⟨fun x hx => ?_, fun t ht => ?_⟩
  · by_cases e : x = y
    · subst e
      rw [h.2.1, h.2.2.1, h.2.2.2]
      exact hO.1 x hx
    · rw [h.li hx e]
      exact hO.1 x hx
  · rw [h.at hy ht (by decide)]
    exact hO.2 t ht
/-- another list is as it was -/
theorem TL.ls (h : TL K L ow y f f2) (hPI : PI kT kI kJ K L f) (hO : OWN K L f ow) (hy : isr K L 0 y) (hx : isr K L 0 x) (hne : x ≠ y) : l_z f2 x = l_z f x ∧ l_n f2 x = l_n f x ∧ l_d f2 x = l_d f x ∧ l_v f2 x = l_v f x := by
  obtain ⟨a, b, c, z, e, ha, hb, hc, hz⟩ := hPI.a0 hx
  have e2 := h.li hx hne
  have o := hO.1 x hx
  rw [li_pn e, li_pd e, li_pv e] at o
  have ea : f2 a = f a := h.1 a ha.1 (fun hn => by
    rcases hn with q | ⟨-, q⟩ | ⟨q, -⟩
    · exact isr_ne ha hy (by decide) q
    · omega
    · rw [ha.2] at q; cases q)
  have eb : f2 b = f b := h.1 b hb.1 (fun hn => by
    rcases hn with q | ⟨-, q⟩ | ⟨q, -⟩
    · exact isr_ne hb hy (by decide) q
    · omega
    · rw [hb.2] at q; cases q)
  have ec : f2 c = f c := h.1 c hc.1 (fun hn => by
    rcases hn with q | ⟨q, -⟩ | ⟨-, q⟩
    · exact isr_ne hc hy (by decide) q
    · rw [hc.2] at q; cases q
    · omega)
  unfold l_z l_n l_d l_v
  rw [e2, li_pn e, li_pd e, li_pv e, ea, eb, ec]
  exact ⟨rfl, rfl, rfl, rfl⟩
/-- a leaf more -/
theorem add_ok {n d : Int32} {v : Int64} (hPI : PI kT kI kJ K L f) (hO : OWN K L f ow) (hy : isr K L 0 y) (hl : LSt f y l) (hz : (l_z f y).toInt < 300) (e2 : f2 = ks_add f y n d v) : TL K L ow y f f2 ∧ LSt f2 y (l ++ [(n, d, v)]) := by
  obtain ⟨a, b, c, z, e, ha, hb, hc, hzr⟩ := hPI.a0 hy
  obtain ⟨ga, ea⟩ := hPI.a7 ha
  obtain ⟨gb, eb⟩ := hPI.a7 hb
  obtain ⟨gc, ec⟩ := hPI.a8 hc
  have o := hO.1 y hy
  rw [li_pn e, li_pd e, li_pv e] at o
  have nab : b ≠ a := fun q => by rw [q] at o; omega
  have nac : c ≠ a := isr_ne hc ha (by decide)
  have nbc : c ≠ b := isr_ne hc hb (by decide)
  have nya : y ≠ a := isr_ne hy ha (by decide)
  have nyb : y ≠ b := isr_ne hy hb (by decide)
  have nyc : y ≠ c := isr_ne hy hc (by decide)
  unfold LSt at hl ⊢
  rw [li_z e] at hz
  rw [li_z e, li_n e ea, li_d e eb, li_v e ec] at hl
  unfold ks_add at e2
  rw [li_z e, if_pos hz, li_pn e, li_pd e, li_pv e, s_I_of ea] at e2
  generalize h1 : va_up f a (.inl (kI, 300, .inl (upd ga (Int32.toNatClampNeg z) n))) = f1 at e2
  have eb1 : f1 b = .inl (kI, 300, .inl gb) := by rw [← h1, va_up_ne _ _ nab]; exact eb
  rw [s_I_of eb1] at e2
  generalize h3 : va_up f1 b (.inl (kI, 300, .inl (upd gb (Int32.toNatClampNeg z) d))) = f3 at e2
  have ec3 : f3 c = .inl (kJ, 300, .inr (.inl gc)) := by rw [← h3, va_up_ne _ _ nbc, ← h1, va_up_ne _ _ nac]; exact ec
  rw [s_J_of ec3] at e2
  generalize h4 : va_up f3 c (.inl (kJ, 300, .inr (.inl (vp_updL gc (Int32.toNatClampNeg z) v)))) = f4 at e2
  have ey4 : f4 y = .inr (0, [.ref a, .ref b, .ref c, .int z]) := by rw [← h4, va_up_ne _ _ nyc, ← h3, va_up_ne _ _ nyb, ← h1, va_up_ne _ _ nya]; exact e
  rw [s_F_of ey4] at e2
  have ey : f2 y = .inr (0, [.ref a, .ref b, .ref c, .int (z + 1)]) := by rw [e2, va_up_self]; rfl
  have eo : ∀ q, q ≠ y → q ≠ a → q ≠ b → q ≠ c → f2 q = f q := fun q q1 q2 q3 q4 => by rw [e2, va_up_ne _ _ q1, ← h4, va_up_ne _ _ q4, ← h3, va_up_ne _ _ q3, ← h1, va_up_ne _ _ q2]
  have ea2 : f2 a = .inl (kI, 300, .inl (upd ga (Int32.toNatClampNeg z) n)) := by rw [e2, va_up_ne _ _ nya.symm, ← h4, va_up_ne _ _ nac.symm, ← h3, va_up_ne _ _ nab.symm, ← h1, va_up_self]
  have eb2 : f2 b = .inl (kI, 300, .inl (upd gb (Int32.toNatClampNeg z) d)) := by rw [e2, va_up_ne _ _ nyb.symm, ← h4, va_up_ne _ _ nbc.symm, ← h3, va_up_self]
  have ec2 : f2 c = .inl (kJ, 300, .inr (.inl (vp_updL gc (Int32.toNatClampNeg z) v))) := by rw [e2, va_up_ne _ _ nyc.symm, ← h4, va_up_self]
  refine ⟨⟨fun q hq hn => ?_, by rw [li_pn ey, li_pn e], by rw [li_pd ey, li_pd e], by rw [li_pv ey, li_pv e]⟩, ?_⟩
  · refine eo q (fun h => hn (Or.inl h)) (fun h => hn (Or.inr (Or.inl ⟨by rw [h]; exact ha.2, by rw [h]; omega⟩))) (fun h => hn (Or.inr (Or.inl ⟨by rw [h]; exact hb.2, by rw [h]; omega⟩))) (fun h => hn (Or.inr (Or.inr ⟨by rw [h]; exact hc.2, by rw [h]; omega⟩)))
  · rw [li_z ey, li_n ey ea2, li_d ey eb2, li_v ey ec2]
    exact hl.push (inc_toInt rfl (by omega))
end OWNS


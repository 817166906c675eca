-- A BIRTH: the first free place, and the fields it gets
def LF (z : Nat → Int32) (o : Nat) : Prop := o < 6400 ∧ z o = 0 ∧ ∀ j, j < o → z j ≠ 0
theorem LF.one {z : Nat → Int32} {o p : Nat} (h : LF z o) (h2 : LF z p) : o = p := by
  rcases Nat.lt_trichotomy o p with q | q | q
  · exact absurd h.2.1 (h2.2.2 o q)
  · exact q
  · exact absurd h2.2.1 (h.2.2 p q)
def BG (fF fG : Nat → Int64) (o : Nat) (i : Int) : Prop := (∀ o2 f, lkf f → o2 ≠ o → fG (17 * o2 + f) = fF (17 * o2 + f)) ∧ ∀ f, lkf f → (f : Int) < i → (fG (17 * o + f)).toInt = -1
section BORN
variable {fS fC : Nat → Int32} {fF fG : Nat → Int64} {z : Nat → Int32} {nE nB : Nat}
theorem lf_step {i i2 : Int32} (h : ∀ j : Nat, (j : Int) < i.toInt → z j ≠ 0) (h0 : 0 ≤ i.toInt) (hz : z (Int32.toNatClampNeg i) ≠ 0) (e : i2.toInt = i.toInt + 1) : ∀ j : Nat, (j : Int) < i2.toInt → z j ≠ 0 := fun j hj => by
  have hc := clamp_int h0
  by_cases q : j = Int32.toNatClampNeg i
  · rw [q]; exact hz
  · exact h j (by omega)
theorem lf_lt {i : Int32} (h : ∀ j : Nat, (j : Int) < i.toInt → z j ≠ 0) (hc : cnt z 6400 < 6400) : i.toInt < 6400 := by
  obtain ⟨k, h1, h2⟩ := cnt_free hc
  by_cases q : i.toInt < 6400
  · exact q
  · exact absurd h2 (h k (by omega))
theorem lf_mk {i : Int32} (h : ∀ j : Nat, (j : Int) < i.toInt → z j ≠ 0) (h0 : 0 ≤ i.toInt ∧ i.toInt < 6400) (hz : z (Int32.toNatClampNeg i) = 0) : LF z (Int32.toNatClampNeg i) := by
  have hc := clamp_int h0.1
  exact ⟨by omega, hz, fun j hj => h j (by omega)⟩
theorem look_room (h : GI fS fC fF nE nB) (hM : MK fS fC fF z) (hcap : 24 * (12 + nE) ≤ 6376 ∨ nB ≤ 6376) : cnt z 6400 ≤ 6376 := by
  obtain ⟨A, b, E, B, hG, h1, h2⟩ := h
  have := gi_count hG hM
  omega
theorem gi_mono {nB2 : Nat} (h : GI fS fC fF nE nB) (hn : nB ≤ nB2) : GI fS fC fF nE nB2 := by
  obtain ⟨A, b, E, B, hG, h1, h2⟩ := h
  exact ⟨A, b, E, B, hG, h1, by omega⟩
theorem make_gi {o k : Nat} {c v : Int32} (hrS : rgS fS) (hrF : rgF fF) (h : GI fS fC fF nE nB) (hM : MK fS fC fF z) (hL : LF z o) (hB : BG fF fG o 17) (hv : v.toInt.toNat = o) : GI (upd fS k v) (upd fC o c) fG nE (nB + 24) := by
  obtain ⟨A, b, E, B, hG, h1, h2⟩ := h
  have g1 := gn_0 (ga_mark hrS hrF hG hM)
  have g2 := gn_born (c := c) g1 hL.1 (fun q => q.2 hL.2.1) List.not_mem_nil (by decide) hB.1 (fun f hf => hB.2 f hf (by have := lk_lt hf; omega))
  have g3 := ga_slot (k := k) (v := v) g2.1 (fun _ => Or.inr (by rw [hv]; exact List.mem_cons_self))
  exact ⟨_, _, _, _, g3, h1, by simp only [List.length_append, List.length_cons, List.length_nil]; omega⟩
end BORN

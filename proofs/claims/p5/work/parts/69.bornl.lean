-- A BIRTH: the first free place, and the fields it gets
def LF (z : Nat → Int32) (o : Nat) : Prop := o < 6400 ∧ z o = 0 ∧ ∀ j, j < o → z j ≠ 0
theorem LF.one {z : Nat → Int32} {o p : Nat} (h : LF z o) (h2 : LF z p) : o = p := by
  rcases Nat.lt_trichotomy o p with q | q | q
  · exact absurd h.2.1 (h2.2.2 o q)
  · exact q
  · exact absurd h2.2.1 (h.2.2 p q)
def BG (fF fG : Nat → Int64) (o : Nat) (i : Int) : Prop := (∀ o2 f, lkf f → o2 ≠ o → fG (17 * o2 + f) = fF (17 * o2 + f)) ∧ ∀ f, lkf f → (f : Int) < i → (fG (17 * o + f)).toInt = -1
section BORN
variable {fS fC : Nat → Int32} {fF fG : Nat → Int64} {z : Nat → Int32} {nE nB : Nat}
theorem bg_0 {o : Nat} : BG fF fF o 0 := ⟨fun _ _ _ _ => rfl, fun f _ h => by omega⟩
theorem bg_step {o i w : Int32} {v : Int64} (h : BG fF fG (Int32.toNatClampNeg o) i.toInt) (ho : 0 ≤ o.toInt) (hi : 0 ≤ i.toInt ∧ i.toInt < 17) (hw : w.toInt = 17 * o.toInt + i.toInt) (hv : v.toInt = -1 ∨ ¬ (i.toInt = 8 ∨ i.toInt = 11 ∨ i.toInt = 15)) : BG fF (vp_updL fG (Int32.toNatClampNeg w) v) (Int32.toNatClampNeg o) (i.toInt + 1) := by
  have e := idx_clamp ho hi.1 hw
  have ei := clamp_int hi.1
  rw [e]
  refine ⟨fun o2 f hf hn => ?_, fun f hf hl => ?_⟩
  · rw [pk_uLn (fun q => hn (idx_inj (lk_lt hf) (by omega) q).1)]
    exact h.1 o2 f hf hn
  · by_cases q : f = Int32.toNatClampNeg i
    · subst q
      rw [pk_uLs]
      rcases hv with hv | hv
      · exact hv
      · unfold lkf at hf
        omega
    · rw [pk_uLn (fun q2 => q (idx_inj (lk_lt hf) (by omega) q2).2)]
      exact h.2 f hf (by omega)
theorem bg_plain {o i w : Int32} {v : Int64} (h : BG fF fG (Int32.toNatClampNeg o) 17) (ho : 0 ≤ o.toInt) (hi : 0 ≤ i.toInt ∧ i.toInt < 17) (hw : w.toInt = 17 * o.toInt + i.toInt) (hv : ¬ (i.toInt = 8 ∨ i.toInt = 11 ∨ i.toInt = 15)) : BG fF (vp_updL fG (Int32.toNatClampNeg w) v) (Int32.toNatClampNeg o) 17 := by
  have e := idx_clamp ho hi.1 hw
  have ei := clamp_int hi.1
  rw [e]
  have ne : ∀ f, lkf f → f ≠ Int32.toNatClampNeg i := fun f hf q => by
    unfold lkf at hf
    omega
  refine ⟨fun o2 f hf hn => ?_, fun f hf hl => ?_⟩
  · rw [pk_uLn (fun q => hn (idx_inj (lk_lt hf) (by omega) q).1)]
    exact h.1 o2 f hf hn
  · rw [pk_uLn (fun q2 => ne f hf (idx_inj (lk_lt hf) (by omega) q2).2)]
    exact h.2 f hf (by omega)
theorem lf_step {i i2 : Int32} (h : ∀ j : Nat, (j : Int) < i.toInt → z j ≠ 0) (h0 : 0 ≤ i.toInt) (hz : z (Int32.toNatClampNeg i) ≠ 0) (e : i2.toInt = i.toInt + 1) : ∀ j : Nat, (j : Int) < i2.toInt → z j ≠ 0 := fun j hj => by
  have hc := clamp_int h0
  by_cases q : j = Int32.toNatClampNeg i
  · rw [q]; exact hz
  · exact h j (by omega)
theorem lf_lt {i : Int32} (h : ∀ j : Nat, (j : Int) < i.toInt → z j ≠ 0) (hc : cnt z 6400 < 6400) : i.toInt < 6400 := by
  obtain ⟨k, h1, h2⟩ := cnt_free hc
  by_cases q : i.toInt < 6400
  · exact q
  · exact absurd h2 (h k (by omega))
theorem lf_mk {i : Int32} (h : ∀ j : Nat, (j : Int) < i.toInt → z j ≠ 0) (h0 : 0 ≤ i.toInt ∧ i.toInt < 6400) (hz : z (Int32.toNatClampNeg i) = 0) : LF z (Int32.toNatClampNeg i) := by
  have hc := clamp_int h0.1
  exact ⟨by omega, hz, fun j hj => h j (by omega)⟩
theorem look_room (h : GI fS fC fF nE nB) (hM : MK fS fC fF z) (hcap : 24 * (12 + nE) ≤ 6376 ∨ nB ≤ 6376) : cnt z 6400 ≤ 6376 := by
  obtain ⟨A, b, E, B, hG, h1, h2⟩ := h
  have := gi_count hG hM
  omega
theorem gi_mono {nB2 : Nat} (h : GI fS fC fF nE nB) (hn : nB ≤ nB2) : GI fS fC fF nE nB2 := by
  obtain ⟨A, b, E, B, hG, h1, h2⟩ := h
  exact ⟨A, b, E, B, hG, h1, by omega⟩
theorem make_gi {o k : Nat} {c v : Int32} (hrS : rgS fS) (hrF : rgF fF) (h : GI fS fC fF nE nB) (hM : MK fS fC fF z) (hL : LF z o) (hB : BG fF fG o 17) (hv : v.toInt.toNat = o) : GI (upd fS k v) (upd fC o c) fG nE (nB + 24) := by
  obtain ⟨A, b, E, B, hG, h1, h2⟩ := h
  have g1 := gn_0 (ga_mark hrS hrF hG hM)
  have g2 := gn_born (c := c) g1 hL.1 (fun q => q.2 hL.2.1) List.not_mem_nil (by decide) hB.1 (fun f hf => hB.2 f hf (by have := lk_lt hf; omega))
  have g3 := ga_slot (k := k) (v := v) g2.1 (fun _ => Or.inr (by rw [hv]; exact List.mem_cons_self))
  exact ⟨_, _, _, _, g3, h1, by simp only [List.length_append, List.length_cons, List.length_nil]; omega⟩
end BORN
theorem GX.mono {kI kJ : ClassId} {K : Nat → Nat} {L : List Nat} {f2 : Nat → va_E} {nE nB nB2 : Nat} (h : GX kI kJ K L f2 nE nB) (hn : nB ≤ nB2) : GX kI kJ K L f2 nE nB2 := by
  obtain ⟨fS, fC, fF, hS, hG⟩ := h
  exact ⟨fS, fC, fF, hS, gi_mono hG hn⟩

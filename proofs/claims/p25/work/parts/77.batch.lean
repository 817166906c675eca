-- A BATCH in the making: what back does
def CPY (kI : ClassId) (K : Nat → Nat) (L : List Nat) (f : Nat → va_E) (ka kb : Nat) (i : Int) : Prop := ∀ (qa qb : Nat) (ga gb : Nat → Int32), isr K L ka qa → isr K L kb qb → f qa = .inl (kI, 300, .inl ga) → f qb = .inl (kI, 300, .inl gb) → ∀ j : Nat, (j : Int) < i → ga j = gb j
theorem CPY.mk {kI : ClassId} {K : Nat → Nat} {L : List Nat} {f : Nat → va_E} {ka kb qa qb : Nat} {i : Int} {ga gb : Nat → Int32} (hU : UN K L) (ia : isr K L ka qa) (ib : isr K L kb qb) (ea : f qa = .inl (kI, 300, .inl ga)) (eb : f qb = .inl (kI, 300, .inl gb)) (h : ∀ j : Nat, (j : Int) < i → ga j = gb j) : CPY kI K L f ka kb i := fun q1 q2 g1 g2 i1 i2 e1 e2 j hj => by
  have a := hU qa q1 ia.1 i1.1 (ia.2.trans i1.2.symm)
  have b := hU qb q2 ib.1 i2.1 (ib.2.trans i2.2.symm)
  subst a
  subst b
  have d := ea.symm.trans e1
  injection d with d
  injection d with _ d
  injection d with _ d
  injection d with d
  subst d
  have d := eb.symm.trans e2
  injection d with d
  injection d with _ d
  injection d with _ d
  injection d with d
  subst d
  exact h j hj
def MV (kI : ClassId) (K : Nat → Nat) (L : List Nat) (f : Nat → va_E) (z : Nat → Int32) : Prop := ∀ q, isr K L 25 q → f q = .inl (kI, 24, .inl z)
theorem MV.mk {kI : ClassId} {K : Nat → Nat} {L : List Nat} {f : Nat → va_E} {z : Nat → Int32} {q : Nat} (hU : UN K L) (i : isr K L 25 q) (e : f q = .inl (kI, 24, .inl z)) : MV kI K L f z := fun q2 h => by
  rw [← hU q q2 i.1 h.1 (i.2.trans h.2.symm)]; exact e
def BB (A : Nat → Prop) (b : Nat → Nat) (E : List (Nat × Nat)) (B : List Nat) (fS fC : Nat → Int32) (fF : Nat → Int64) (z gM : Nat → Int32) (j : Int) : Prop := ∃ N : List Nat, GN fS fC fF A b E B N ∧ (N.length : Int) = j ∧ (∀ x, A x → z x ≠ 0) ∧ (∀ x ∈ N, z x ≠ 0) ∧ (cnt z 6400 : Int) ≤ 6376 + j ∧ ∀ i : Nat, (i : Int) < j → (gM i).toInt.toNat ∈ N
section BATCH
variable {fS fC : Nat → Int32} {fF fG : Nat → Int64} {A : Nat → Prop} {b : Nat → Nat} {E : List (Nat × Nat)} {B : List Nat} {z gM : Nat → Int32} {j : Int} {nE nB : Nat}
theorem bb_0 (hrS : rgS fS) (hrF : rgF fF) (h : GA fS fC fF A b E B) (hM : MK fS fC fF z) (hc : cnt z 6400 ≤ 6376) : BB (fun o => o < 6400 ∧ z o ≠ 0) b E B fS fC fF z gM 0 := ⟨[], gn_0 (ga_mark hrS hrF h hM), rfl, fun _ h => h.2, fun x hx => absurd hx List.not_mem_nil, by omega, fun i hi => by omega⟩
theorem bb_room (h : BB A b E B fS fC fF z gM j) (hj : j < 24) : cnt z 6400 < 6400 := by
  obtain ⟨N, h1, h2, h3, h4, h5, h6⟩ := h
  omega
theorem bb_step {o k : Nat} {c v : Int32} (h : BB A b E B fS fC fF z gM j) (hL : LF z o) (hB : BG fF fG o 17) (hj : j < 24) (hv : v.toInt.toNat = o) (hk : (k : Int) = j) : BB A b E B fS (upd fC o c) fG (upd z o (vp_nar .boolean 1)) (upd gM k v) (j + 1) := by
  obtain ⟨N, h1, h2, h3, h4, h5, h6⟩ := h
  have hc := cnt_upd hL.2.1 nz1 6400 hL.1
  refine ⟨o :: N, gn_born h1 hL.1 (fun q => h3 o q hL.2.1) (fun q => h4 o q hL.2.1) (by omega) hB.1 (fun f hf => hB.2 f hf (by have := lk_lt hf; omega)), by simp only [List.length_cons]; omega, fun x hx => upd_ne0 nz1 (h3 x hx), fun x hx => ?_, by omega, fun i hi => ?_⟩
  · by_cases e : x = o
    · rw [e, pk_us]; exact nz1
    · exact upd_ne0 nz1 (h4 x ((List.mem_cons.mp hx).elim (fun q => absurd q e) id))
  · by_cases e : i = k
    · rw [e, pk_us, hv]; exact List.mem_cons_self
    · rw [pk_un e]; exact List.mem_cons_of_mem _ (h6 i (by omega))
theorem bb_plain {k : Nat} {v : Int64} (h : BB A b E B fS fC fF z gM j) (hk : ∀ o f, lkf f → ¬ 17 * o + f = k) : BB A b E B fS fC (vp_updL fF k v) z gM j := by
  obtain ⟨N, h1, h2⟩ := h
  exact ⟨N, ⟨ga_plain h1.1 hk, h1.2⟩, h2⟩
theorem bb_link {o f w p q u : Int32} (h : BB A b E B fS fC fF z gM j) (hp : 0 ≤ p.toInt ∧ p.toInt < j) (hq : 0 ≤ q.toInt ∧ q.toInt < j) (eo : o = gM (Int32.toNatClampNeg p)) (eu : u = gM (Int32.toNatClampNeg q)) (ho : 0 ≤ o.toInt) (hf : 0 ≤ f.toInt ∧ f.toInt < 17) (hw : w.toInt = 17 * o.toInt + f.toInt) : BB A b E B fS fC (vp_updL fF (Int32.toNatClampNeg w) (Int32.toInt64 u)) z gM j := by
  obtain ⟨N, h1, h2, h3, h4, h5, h6⟩ := h
  have ep := clamp_int hp.1
  have eq := clamp_int hq.1
  have ef := clamp_int hf.1
  have m1 := h6 (Int32.toNatClampNeg p) (by omega)
  have m2 := h6 (Int32.toNatClampNeg q) (by omega)
  rw [← eo] at m1
  rw [← eu] at m2
  have m1 : Int32.toNatClampNeg o ∈ N := m1
  refine ⟨N, ⟨?_, h1.2⟩, h2, h3, h4, h5, h6⟩
  rw [idx_clamp ho hf.1 hw]
  have e3 := Int32.toInt_toInt64 u
  refine ga_in h1.1 (by omega) ⟨?_, ?_⟩
  · rw [e3]; exact Or.inr m2
  · rw [e3, if_pos m2, if_pos m1]
theorem bb_end (h : BB A b E B fS fC fF z gM j) (hE : E.length ≤ nE) (hB : B.length ≤ nB) : GI fS fC fF nE (nB + 24) := by
  obtain ⟨N, h1, h2⟩ := h
  exact gi_mono (gn_end h1 hE hB) (by have := h1.2.2; omega)
theorem bb_slot {k : Nat} {v : Int32} (h : BB A b E B fS fC fF z gM j) (hE : E.length ≤ nE) (hB : B.length ≤ nB) (hj : 0 < j) (hv : v = gM (Int32.toNatClampNeg 0)) : GI (upd fS k v) fC fF nE (nB + 24) := by
  obtain ⟨N, h1, h2, h3, h4, h5, h6⟩ := h
  have m := h6 0 hj
  have e0 : Int32.toNatClampNeg 0 = 0 := by decide
  rw [e0] at hv
  rw [← hv] at m
  refine ⟨_, _, _, _, ga_slot (k := k) (v := v) h1.1 (fun _ => Or.inr m), hE, ?_⟩
  have := h1.2.2
  simp only [List.length_append]
  omega
end BATCH


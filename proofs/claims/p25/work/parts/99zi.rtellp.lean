-- THE REFERENCE'S OBJECTS, seen as the class's are
def hs (c j : Int) : Bool := decide ((c = 0 ∧ j < 10) ∨ (c = 1 ∧ j < 12) ∨ (c = 2 ∧ j < 14) ∨ (c = 3 ∧ (j = 14 ∨ j = 15)) ∨ (¬ c = 0 ∧ ¬ c = 1 ∧ ¬ c = 2 ∧ ¬ c = 3 ∧ j = 16))
theorem hs_iff {c j : Int} : hs c j = true ↔ ((c = 0 ∧ j < 10) ∨ (c = 1 ∧ j < 12) ∨ (c = 2 ∧ j < 14) ∨ (c = 3 ∧ (j = 14 ∨ j = 15)) ∨ (¬ c = 0 ∧ ¬ c = 1 ∧ ¬ c = 2 ∧ ¬ c = 3 ∧ j = 16)) := by
  unfold hs
  exact decide_eq_true_iff
def r_ob (v : Int32) : Option Nat := if v.toInt = -1 then none else some (Int32.toNatClampNeg v)
def r_vl (fC : Nat → Int32) (fF : Nat → Int64) (o j : Nat) : Int64 := if hs (fC o).toInt (j : Int) = true then fF (17 * o + j) else 0
def r_lk (fC : Nat → Int32) (fF : Nat → Int64) (o : Nat) (w : Int) : Option Nat := if (w = 8 ∨ w = 11 ∨ w = 15) ∧ hs (fC o).toInt w = true ∧ ¬ (fF (17 * o + w.toNat)).toInt = -1 then some (fF (17 * o + w.toNat)).toInt.toNat else none
def r_rw (fC fR fW : Nat → Int32) (o : Nat) : Option (Nat × (Nat → Int32)) := if hs (fC o).toInt 9 = true ∧ ¬ (fR o).toInt = -1 then some ((fR o).toInt.toNat, fun i => fW (20 * o + i)) else none
section RVIEW1
variable {fS fC : Nat → Int32} {fF : Nat → Int64} {fR fW : Nat → Int32} {o : Nat} {w : Int}
theorem r_ob_none {v : Int32} (h : v.toInt = -1) : r_ob v = none := if_pos h
theorem r_ob_some {v : Int32} (h : ¬ v.toInt = -1) : r_ob v = some (Int32.toNatClampNeg v) := if_neg h
theorem r_vl_in {j : Nat} (h : hs (fC o).toInt (j : Int) = true) : r_vl fC fF o j = fF (17 * o + j) := if_pos h
theorem r_vl_no {j : Nat} (h : ¬ hs (fC o).toInt (j : Int) = true) : r_vl fC fF o j = 0 := if_neg h
theorem r_lk_links (h : r_lk fC fF o w = some 0 ∨ ∃ t, r_lk fC fF o w = some t) : (w = 8 ∨ w = 11 ∨ w = 15) ∧ hs (fC o).toInt w = true ∧ ¬ (fF (17 * o + w.toNat)).toInt = -1 := by
  unfold r_lk at h
  by_cases hp : (w = 8 ∨ w = 11 ∨ w = 15) ∧ hs (fC o).toInt w = true ∧ ¬ (fF (17 * o + w.toNat)).toInt = -1
  · exact hp
  · rw [if_neg hp] at h
    rcases h with h | ⟨t, h⟩ <;> cases h
theorem r_lk_in {t : Nat} (h : r_lk fC fF o w = some t) : ((w = 8 ∨ w = 11 ∨ w = 15) ∧ hs (fC o).toInt w = true ∧ ¬ (fF (17 * o + w.toNat)).toInt = -1) ∧ t = (fF (17 * o + w.toNat)).toInt.toNat := by
  have hp := r_lk_links (Or.inr ⟨t, h⟩)
  unfold r_lk at h
  rw [if_pos hp] at h
  cases h
  exact ⟨hp, rfl⟩
theorem r_lk_of (h1 : w = 8 ∨ w = 11 ∨ w = 15) (h2 : hs (fC o).toInt w = true) : r_lk fC fF o w = if (fF (17 * o + w.toNat)).toInt = -1 then none else some (fF (17 * o + w.toNat)).toInt.toNat := by
  unfold r_lk
  by_cases h : (fF (17 * o + w.toNat)).toInt = -1
  · rw [if_neg (fun q => q.2.2 h), if_pos h]
  · rw [if_pos ⟨h1, h2, h⟩, if_neg h]
end RVIEW1
-- THE REFERENCE'S TELLING: the new leaves l, what is found lf
def NLr (kI kJ : ClassId) (K : Nat → Nat) (L : List Nat) (f : Nat → va_E) (g : Nat) (l : List (Int32 × Int32 × Int64)) : Prop := ∃ (no nd : Nat → Int32) (nv : Nat → Int64), ((∀ q, isr K L 22 q → f q = .inl (kI, 300, .inl no)) ∧ (∀ q, isr K L 23 q → f q = .inl (kI, 300, .inl nd)) ∧ ∀ q, isr K L 24 q → f q = .inl (kJ, 300, .inr (.inl nv))) ∧ LSv (cI (f g) 14) no nd nv l
/-- the leaves l are told, or have no room -/
def TSr (kI kJ : ClassId) (K : Nat → Nat) (L : List Nat) (f : Nat → va_E) (g : Nat) (l : List (Int32 × Int32 × Int64)) : Prop := (cI (f g) 18 = 1 ∧ NLr kI kJ K L f g l ∧ l.length ≤ 300) ∨ (cI (f g) 18 = 0 ∧ (cI (f g) 14).toInt = 300 ∧ 300 < l.length)
def KQ2 (f f2 : Nat → va_E) (g : Nat) : Prop := cI (f2 g) 7 = cI (f g) 7 ∧ cI (f2 g) 8 = cI (f g) 8
def KQ (f f2 : Nat → va_E) (g : Nat) : Prop := KQ2 f f2 g ∧ cI (f2 g) 12 = cI (f g) 12
def FLr (kI : ClassId) (K : Nat → Nat) (L : List Nat) (f : Nat → va_E) (g : Nat) (lf : List Nat) : Prop := ∃ gF : Nat → Int32, (∀ q, isr K L 21 q → f q = .inl (kI, 25, .inl gF)) ∧ (cI (f g) 12).toInt = (lf.length : Int) ∧ ∀ i t, lf[i]? = some t → some (Int32.toNatClampNeg (gF i)) = some t
section TELLR
variable {kI kJ kZ : ClassId} {K : Nat → Nat} {L : List Nat} {f f1 f2 : Nat → va_E} {g : Nat} {l : List (Int32 × Int32 × Int64)} {lf : List Nat} {S : Nat → Bool} {fS fC : Nat → Int32} {fF : Nat → Int64} {fR fW lo ld : Nat → Int32} {lv : Nat → Int64} {lm pa : Int32}
theorem KQ2.rf : KQ2 f f g := ⟨rfl, rfl⟩
theorem KQ2.tr (h : KQ2 f f1 g) (h2 : KQ2 f1 f2 g) : KQ2 f f2 g := ⟨h2.1.trans h.1, h2.2.trans h.2⟩
theorem KQ.rf : KQ f f g := ⟨KQ2.rf, rfl⟩
theorem KQ.tr (h : KQ f f1 g) (h2 : KQ f1 f2 g) : KQ f f2 g := ⟨h.1.tr h2.1, h2.2.trans h.2⟩
theorem FLr.kq (h : FLr kI K L f g lf) (hfr : FR S K L f f2) (h21 : S 21 = false) (hk : KQ f f2 g) : FLr kI K L f2 g lf := by
  obtain ⟨gF, h1, h2, h3⟩ := h
  exact ⟨gF, fun q hq => (hfr q hq.1 (by rw [hq.2]; exact h21)).trans (h1 q hq), by rw [hk.2]; exact h2, h3⟩
theorem RV.kq (h : RV kI kJ K L f g fS fC fF fR fW lo ld lv lm pa) (hfr : FR S K L f f2) (hs : S 11 = false ∧ S 12 = false ∧ S 13 = false ∧ S 14 = false ∧ S 15 = false ∧ S 18 = false ∧ S 19 = false ∧ S 20 = false) (hk : KQ2 f f2 g) : RV kI kJ K L f2 g fS fC fF fR fW lo ld lv lm pa := by
  obtain ⟨h1, ⟨h2, h3⟩, ⟨h4, h5, h6⟩, h7, h8⟩ := h
  obtain ⟨s1, s2, s3, s4, s5, s6, s7, s8⟩ := hs
  have ef : ∀ k q, isr K L k q → S k = false → f2 q = f q := fun k q hq hk => hfr q hq.1 (by rw [hq.2]; exact hk)
  exact ⟨h1.fr hfr s1 s2 s3, ⟨fun q hq => (ef 14 q hq s4).trans (h2 q hq), fun q hq => (ef 15 q hq s5).trans (h3 q hq)⟩, ⟨fun q hq => (ef 18 q hq s6).trans (h4 q hq), fun q hq => (ef 19 q hq s7).trans (h5 q hq), fun q hq => (ef 20 q hq s8).trans (h6 q hq)⟩, by rw [hk.2]; exact h7, by rw [hk.1]; exact h8⟩
theorem TSr.room (h : TSr kI kJ K L f g l) : (cI (f g) 18 = 1 → NLr kI kJ K L f g l ∧ l.length ≤ 300) ∧ (cI (f g) 18 = 0 → 300 < l.length) := by
  rcases h with ⟨h1, h2, h3⟩ | ⟨h1, h2, h3⟩
  · exact ⟨fun _ => ⟨h2, h3⟩, fun q => by rw [h1] at q; exact absurd q (by decide)⟩
  · exact ⟨fun q => by rw [h1] at q; exact absurd q (by decide), fun _ => h3⟩
end TELLR
section RVIEW2
variable {fC : Nat → Int32} {fF : Nat → Int64} {fR fW : Nat → Int32} {o : Nat} {nb : Nat → Int32} {k w : Int32} {R : Option (Nat × (Nat → Int32))} {N : Int → Option Nat} {V : Nat → Int64}
/-- a field that the class has not tells nothing -/
theorem lff_no (hw : 0 ≤ w.toInt) (hn : ¬ hs (fC o).toInt w.toInt = true) : lff nb (r_vl fC fF o) (r_lk fC fF o) (r_rw fC fR fW o) k (Int32.toNatClampNeg w) = [] := by
  have hc := clamp_int hw
  by_cases hl : w.toInt = 8 ∨ w.toInt = 11 ∨ w.toInt = 15
  · refine lff_l0 hl ?_
    unfold r_lk
    exact if_neg (fun q => hn q.2.1)
  · by_cases h9 : w.toInt = 9
    · refine lff_r0 h9 ?_
      unfold r_rw
      rw [h9] at hn
      exact if_neg (fun q => hn q.1)
    · exact lff_v0 ⟨hw, hl, h9⟩ (r_vl_no (by rw [hc]; exact hn))
theorem lff_lz {v : Int64} (hl : w.toInt = 8 ∨ w.toInt = 11 ∨ w.toInt = 15) (ev : v = fF (17 * o + Int32.toNatClampNeg w)) (h : v.toInt = -1) : lff nb V (r_lk fC fF o) R k (Int32.toNatClampNeg w) = [] := by
  refine lff_l0 hl ?_
  unfold r_lk
  refine if_neg (fun q => q.2.2 ?_)
  rw [show w.toInt.toNat = Int32.toNatClampNeg w from rfl, ← ev]
  exact h
theorem lff_ln {v : Int64} (hl : w.toInt = 8 ∨ w.toInt = 11 ∨ w.toInt = 15) (hh : hs (fC o).toInt w.toInt = true) (ev : v = fF (17 * o + Int32.toNatClampNeg w)) (h : ¬ v.toInt = -1) : lff nb V (r_lk fC fF o) R k (Int32.toNatClampNeg w) = [(k, w, (nb v.toInt.toNat).toInt64)] := by
  refine lff_l1 hl ?_
  rw [r_lk_of hl hh, show w.toInt.toNat = Int32.toNatClampNeg w from rfl, ← ev, if_neg h]
theorem lff_rz (h9 : w.toInt = 9) (h : (fR o).toInt = -1) : lff nb V N (r_rw fC fR fW o) k (Int32.toNatClampNeg w) = [] := by
  refine lff_r0 h9 ?_
  unfold r_rw
  exact if_neg (fun q => q.2 h)
theorem lff_rn (h9 : w.toInt = 9) (hh : hs (fC o).toInt w.toInt = true) (h : ¬ (fR o).toInt = -1) : lff nb V N (r_rw fC fR fW o) k (Int32.toNatClampNeg w) = rowL k (fR o).toInt.toNat (fun i => fW (20 * o + i)) := by
  refine lff_r1 h9 ?_
  unfold r_rw
  rw [h9] at hh
  exact if_pos ⟨hh, h⟩
theorem lff_vz {v : Int64} (hw : 0 ≤ w.toInt ∧ ¬ (w.toInt = 8 ∨ w.toInt = 11 ∨ w.toInt = 15) ∧ ¬ w.toInt = 9) (hh : hs (fC o).toInt w.toInt = true) (ev : v = fF (17 * o + Int32.toNatClampNeg w)) (h : v = 0) : lff nb (r_vl fC fF o) N R k (Int32.toNatClampNeg w) = [] := by
  have hc := clamp_int hw.1
  refine lff_v0 hw ?_
  rw [r_vl_in (by rw [hc]; exact hh), ← ev]
  exact h
theorem lff_vn {v : Int64} (hw : 0 ≤ w.toInt ∧ ¬ (w.toInt = 8 ∨ w.toInt = 11 ∨ w.toInt = 15) ∧ ¬ w.toInt = 9) (hh : hs (fC o).toInt w.toInt = true) (ev : v = fF (17 * o + Int32.toNatClampNeg w)) (h : ¬ v = 0) : lff nb (r_vl fC fF o) N R k (Int32.toNatClampNeg w) = [(k, w, v)] := by
  have hc := clamp_int hw.1
  have e : r_vl fC fF o (Int32.toNatClampNeg w) = v := by rw [r_vl_in (by rw [hc]; exact hh), ← ev]
  rw [lff_v1 hw (by rw [e]; exact h), e]
end RVIEW2
/-- the links of o from field 8 on, n of them looked at -/
def sq (N : Nat → Int → Option Nat) (l : List Nat) (o : Nat) : Nat → List Nat
  | 0 => l
  | n + 1 => ad (sq N l o n) (N o (8 + (n : Int)))
section SQS
variable {fC : Nat → Int32} {fF : Nat → Int64} {l : List Nat} {o : Nat}
theorem r_lk_not {w : Int} (h : ¬ (w = 8 ∨ w = 11 ∨ w = 15)) : r_lk fC fF o w = none := if_neg (fun q => h q.1)
theorem sq_8 : sq (r_lk fC fF) l o 8 = st3 (r_lk fC fF) l o := by
  show ad (ad (ad (ad (ad (ad (ad (ad l (r_lk fC fF o (8 + ((0 : Nat) : Int)))) (r_lk fC fF o (8 + ((1 : Nat) : Int)))) (r_lk fC fF o (8 + ((2 : Nat) : Int)))) (r_lk fC fF o (8 + ((3 : Nat) : Int)))) (r_lk fC fF o (8 + ((4 : Nat) : Int)))) (r_lk fC fF o (8 + ((5 : Nat) : Int)))) (r_lk fC fF o (8 + ((6 : Nat) : Int)))) (r_lk fC fF o (8 + ((7 : Nat) : Int))) = _
  rw [r_lk_not (w := 8 + ((1 : Nat) : Int)) (by omega), r_lk_not (w := 8 + ((2 : Nat) : Int)) (by omega), r_lk_not (w := 8 + ((4 : Nat) : Int)) (by omega), r_lk_not (w := 8 + ((5 : Nat) : Int)) (by omega), r_lk_not (w := 8 + ((6 : Nat) : Int)) (by omega)]
  rfl
end SQS


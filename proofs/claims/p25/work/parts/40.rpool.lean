-- THE REFERENCE'S HEAP, TYPED: kind 10 the object, 11 .. 28 its rows, each a kind of its own
def rgS (g : Nat → Int32) : Prop := ∀ j, j < 12 → -1 ≤ (g j).toInt ∧ (g j).toInt < 6400
def rgF (g : Nat → Int64) : Prop := ∀ o f : Nat, o < 6400 → (f = 8 ∨ f = 11 ∨ f = 15) → -1 ≤ (g (17 * o + f)).toInt ∧ (g (17 * o + f)).toInt < 6400
def rgR (g : Nat → Int32) : Prop := ∀ j, j < 6400 → -1 ≤ (g j).toInt ∧ (g j).toInt ≤ 20
def rgP (n : Nat) (g : Nat → Int32) : Prop := ∀ j, j < n → 0 ≤ (g j).toInt ∧ (g j).toInt < 6400
def rgO (g : Nat → Int32) : Prop := ∀ j, j < 300 → 0 ≤ (g j).toInt ∧ (g j).toInt < 24
def rgD (g : Nat → Int32) : Prop := ∀ j, j < 300 → (-1 ≤ (g j).toInt ∧ (g j).toInt < 17) ∨ (100 ≤ (g j).toInt ∧ (g j).toInt < 120)
def rkI (kI : ClassId) (n : Nat) (P : (Nat → Int32) → Prop) (e : va_E) : Prop := ∃ g : Nat → Int32, e = .inl (kI, n, .inl g) ∧ P g
def rkJ (kJ : ClassId) (n : Nat) (P : (Nat → Int64) → Prop) (e : va_E) : Prop := ∃ g : Nat → Int64, e = .inl (kJ, n, .inr (.inl g)) ∧ P g
def rk10 (K : Nat → Nat) (L : List Nat) (e : va_E) : Prop := ∃ (s1 s2 s3 s4 s5 s6 s7 : Nat) (pa lm : Int32) (s8 s9 s10 : Nat) (fm : Int32) (s11 : Nat) (nm : Int32) (s12 s13 s14 : Nat) (rm : Int32) (s15 s16 s17 s18 : Nat), e = .inr (3, [.ref s1, .ref s2, .ref s3, .ref s4, .ref s5, .ref s6, .ref s7, .int pa, .int lm, .ref s8, .ref s9, .ref s10, .int fm, .ref s11, .int nm, .ref s12, .ref s13, .ref s14, .int rm, .ref s15, .ref s16, .ref s17, .ref s18]) ∧ isr K L 11 s1 ∧ isr K L 12 s2 ∧ isr K L 13 s3 ∧ isr K L 14 s4 ∧ isr K L 15 s5 ∧ isr K L 16 s6 ∧ isr K L 17 s7 ∧ (0 ≤ lm.toInt ∧ lm.toInt ≤ 300) ∧ isr K L 18 s8 ∧ isr K L 19 s9 ∧ isr K L 20 s10 ∧ (0 ≤ fm.toInt ∧ fm.toInt ≤ 24) ∧ isr K L 21 s11 ∧ (0 ≤ nm.toInt ∧ nm.toInt ≤ 300) ∧ isr K L 22 s12 ∧ isr K L 23 s13 ∧ isr K L 24 s14 ∧ r01 rm ∧ isr K L 25 s15 ∧ isr K L 26 s16 ∧ isr K L 27 s17 ∧ isr K L 28 s18
def okr (kI kJ kZ : ClassId) (K : Nat → Nat) (L : List Nat) (k : Nat) (e : va_E) : Prop := match k with
  | 10 => rk10 K L e
  | 11 => rkI kI 12 rgS e
  | 12 => rkI kI 6400 (fun _ => True) e
  | 13 => rkJ kJ 108800 rgF e
  | 14 => rkI kI 6400 rgR e
  | 15 => rkI kI 128000 (fun _ => True) e
  | 16 => rkI kZ 6400 (fun _ => True) e
  | 17 => rkI kI 6400 (rgP 6400) e
  | 18 => rkI kI 300 rgO e
  | 19 => rkI kI 300 rgD e
  | 20 => rkJ kJ 300 (fun _ => True) e
  | 21 => rkI kI 25 (rgP 25) e
  | 22 => rkI kI 300 rgO e
  | 23 => rkI kI 300 rgD e
  | 24 => rkJ kJ 300 (fun _ => True) e
  | 25 => rkI kI 24 (rgP 24) e
  | 26 => rkI kI 300 (fun _ => True) e
  | 27 => rkI kI 300 (fun _ => True) e
  | 28 => rkJ kJ 300 (fun _ => True) e
  | _ => False
def PR (kI kJ kZ : ClassId) (K : Nat → Nat) (L : List Nat) (f : Nat → va_E) : Prop := ∀ a, a ∈ L → okr kI kJ kZ K L (K a) (f a)
section RTYP
variable {kI kJ kZ : ClassId} {K : Nat → Nat} {L : List Nat} {f : Nat → va_E} {x k : Nat} {e : va_E}
theorem PR.at (h : PR kI kJ kZ K L f) (hx : isr K L k x) : okr kI kJ kZ K L k (f x) := by
  have := h x hx.1
  rw [hx.2] at this
  exact this
theorem PR.put (h : PR kI kJ kZ K L f) (hx : isr K L k x) (he : okr kI kJ kZ K L k e) : PR kI kJ kZ K L (va_up f x e) := fun a ha => by
  by_cases ea : a = x
  · subst ea
    rw [va_up_self, hx.2]
    exact he
  · rw [va_up_ne _ _ ea]
    exact h a ha
theorem PR.a10 (h : PR kI kJ kZ K L f) (hx : isr K L 10 x) : rk10 K L (f x) := h.at hx
theorem PR.a10E {C : Prop} (h : PR kI kJ kZ K L f) (hx : isr K L 10 x) (H : ∀ (s1 s2 s3 s4 s5 s6 s7 : Nat) (pa lm : Int32) (s8 s9 s10 : Nat) (fm : Int32) (s11 : Nat) (nm : Int32) (s12 s13 s14 : Nat) (rm : Int32) (s15 s16 s17 s18 : Nat), f x = .inr (3, [.ref s1, .ref s2, .ref s3, .ref s4, .ref s5, .ref s6, .ref s7, .int pa, .int lm, .ref s8, .ref s9, .ref s10, .int fm, .ref s11, .int nm, .ref s12, .ref s13, .ref s14, .int rm, .ref s15, .ref s16, .ref s17, .ref s18]) → isr K L 11 s1 → isr K L 12 s2 → isr K L 13 s3 → isr K L 14 s4 → isr K L 15 s5 → isr K L 16 s6 → isr K L 17 s7 → (0 ≤ lm.toInt ∧ lm.toInt ≤ 300) → isr K L 18 s8 → isr K L 19 s9 → isr K L 20 s10 → (0 ≤ fm.toInt ∧ fm.toInt ≤ 24) → isr K L 21 s11 → (0 ≤ nm.toInt ∧ nm.toInt ≤ 300) → isr K L 22 s12 → isr K L 23 s13 → isr K L 24 s14 → r01 rm → isr K L 25 s15 → isr K L 26 s16 → isr K L 27 s17 → isr K L 28 s18 → C) : C := by
  obtain ⟨s1, s2, s3, s4, s5, s6, s7, pa, lm, s8, s9, s10, fm, s11, nm, s12, s13, s14, rm, s15, s16, s17, s18, h0, h1, h2, h3, h4, h5, h6, h7, h8, h9, h10, h11, h12, h13, h14, h15, h16, h17, h18, h19, h20, h21, h22⟩ := h.a10 hx
  exact H s1 s2 s3 s4 s5 s6 s7 pa lm s8 s9 s10 fm s11 nm s12 s13 s14 rm s15 s16 s17 s18 h0 h1 h2 h3 h4 h5 h6 h7 h8 h9 h10 h11 h12 h13 h14 h15 h16 h17 h18 h19 h20 h21 h22
theorem PR.a11 (h : PR kI kJ kZ K L f) (hx : isr K L 11 x) : rkI kI 12 rgS (f x) := h.at hx
theorem PR.a12 (h : PR kI kJ kZ K L f) (hx : isr K L 12 x) : rkI kI 6400 (fun _ => True) (f x) := h.at hx
theorem PR.a13 (h : PR kI kJ kZ K L f) (hx : isr K L 13 x) : rkJ kJ 108800 rgF (f x) := h.at hx
theorem PR.a14 (h : PR kI kJ kZ K L f) (hx : isr K L 14 x) : rkI kI 6400 rgR (f x) := h.at hx
theorem PR.a15 (h : PR kI kJ kZ K L f) (hx : isr K L 15 x) : rkI kI 128000 (fun _ => True) (f x) := h.at hx
theorem PR.a16 (h : PR kI kJ kZ K L f) (hx : isr K L 16 x) : rkI kZ 6400 (fun _ => True) (f x) := h.at hx
theorem PR.a17 (h : PR kI kJ kZ K L f) (hx : isr K L 17 x) : rkI kI 6400 (rgP 6400) (f x) := h.at hx
theorem PR.a18 (h : PR kI kJ kZ K L f) (hx : isr K L 18 x) : rkI kI 300 rgO (f x) := h.at hx
theorem PR.a19 (h : PR kI kJ kZ K L f) (hx : isr K L 19 x) : rkI kI 300 rgD (f x) := h.at hx
theorem PR.a20 (h : PR kI kJ kZ K L f) (hx : isr K L 20 x) : rkJ kJ 300 (fun _ => True) (f x) := h.at hx
theorem PR.a21 (h : PR kI kJ kZ K L f) (hx : isr K L 21 x) : rkI kI 25 (rgP 25) (f x) := h.at hx
theorem PR.a22 (h : PR kI kJ kZ K L f) (hx : isr K L 22 x) : rkI kI 300 rgO (f x) := h.at hx
theorem PR.a23 (h : PR kI kJ kZ K L f) (hx : isr K L 23 x) : rkI kI 300 rgD (f x) := h.at hx
theorem PR.a24 (h : PR kI kJ kZ K L f) (hx : isr K L 24 x) : rkJ kJ 300 (fun _ => True) (f x) := h.at hx
theorem PR.a25 (h : PR kI kJ kZ K L f) (hx : isr K L 25 x) : rkI kI 24 (rgP 24) (f x) := h.at hx
theorem PR.a26 (h : PR kI kJ kZ K L f) (hx : isr K L 26 x) : rkI kI 300 (fun _ => True) (f x) := h.at hx
theorem PR.a27 (h : PR kI kJ kZ K L f) (hx : isr K L 27 x) : rkI kI 300 (fun _ => True) (f x) := h.at hx
theorem PR.a28 (h : PR kI kJ kZ K L f) (hx : isr K L 28 x) : rkJ kJ 300 (fun _ => True) (f x) := h.at hx
end RTYP
-- arithmetic of the places
theorem mul_toInt {x y z : Int32} (e : z = x * y) (h0 : 0 ≤ x.toInt * y.toInt) (h1 : x.toInt * y.toInt < 2147483648) : z.toInt = x.toInt * y.toInt := by
  rw [e, Int32.toInt_mul]
  exact Int.bmod_eq_of_le (by omega) (by omega)
theorem mul17 {x z : Int32} (e : z = 17 * x) (h0 : 0 ≤ x.toInt) (h1 : x.toInt < 6400) : z.toInt = 17 * x.toInt := by
  have e17 : (17 : Int32).toInt = 17 := by decide
  rw [mul_toInt e (by rw [e17]; omega) (by rw [e17]; omega), e17]
theorem mul20 {x z : Int32} (e : z = 20 * x) (h0 : 0 ≤ x.toInt) (h1 : x.toInt < 6400) : z.toInt = 20 * x.toInt := by
  have e17 : (20 : Int32).toInt = 20 := by decide
  rw [mul_toInt e (by rw [e17]; omega) (by rw [e17]; omega), e17]
theorem add_toInt {x y z : Int32} (e : z = x + y) (h0 : -2147483648 ≤ x.toInt + y.toInt) (h1 : x.toInt + y.toInt < 2147483648) : z.toInt = x.toInt + y.toInt := by
  rw [e, Int32.toInt_add]
  exact Int.bmod_eq_of_le (by omega) (by omega)
theorem sub_toInt2 {x y z : Int32} (e : z = x - y) (h0 : -2147483648 ≤ x.toInt - y.toInt) (h1 : x.toInt - y.toInt < 2147483648) : z.toInt = x.toInt - y.toInt := by
  rw [e, Int32.toInt_sub]
  exact Int.bmod_eq_of_le (by omega) (by omega)
theorem l2i_sm {x : Int64} {z : Int32} (e : z = x.toInt32) (h0 : -2147483648 ≤ x.toInt) (h1 : x.toInt < 2147483648) : z.toInt = x.toInt := by
  rw [e, Int64.toInt_toInt32]
  exact Int.bmod_eq_of_le (by omega) (by omega)
theorem rgF.at {g : Nat → Int64} (h : rgF g) {o f w : Int32} (ho : 0 ≤ o.toInt ∧ o.toInt < 6400) (hf : f.toInt = 8 ∨ f.toInt = 11 ∨ f.toInt = 15) (hw : w.toInt = 17 * o.toInt + f.toInt) : -1 ≤ (g (Int32.toNatClampNeg w)).toInt ∧ (g (Int32.toNatClampNeg w)).toInt < 6400 := by
  have e1 := clamp_int ho.1
  have e2 := clamp_int (i := f) (by omega)
  have e3 := clamp_int (i := w) (by omega)
  have e : Int32.toNatClampNeg w = 17 * Int32.toNatClampNeg o + Int32.toNatClampNeg f := by omega
  rw [e]
  exact h _ _ (by omega) (by omega)
theorem updS {g : Nat → Int32} {P : Int32 → Prop} {n k : Nat} {v : Int32} (h : ∀ j, j < n → P (g j)) (hv : P v) : ∀ j, j < n → P (upd g k v j) := fun j hj => by
  by_cases e : j = k
  · rw [e, pk_us]; exact hv
  · rw [pk_un e]; exact h j hj
/-- a plain field is written: the links stay -/
theorem rgF.plain {g : Nat → Int64} (h : rgF g) {o f w : Int32} {v : Int64} (ho : 0 ≤ o.toInt ∧ o.toInt < 6400) (hf : 0 ≤ f.toInt ∧ f.toInt < 17 ∧ ¬ (f.toInt = 8 ∨ f.toInt = 11 ∨ f.toInt = 15)) (hw : w.toInt = 17 * o.toInt + f.toInt) : rgF (vp_updL g (Int32.toNatClampNeg w) v) := fun a b ha hb => by
  have e1 := clamp_int ho.1
  have e2 := clamp_int (i := f) hf.1
  have e3 := clamp_int (i := w) (by omega)
  rw [pk_uLn (by omega)]
  exact h a b ha hb
/-- a link is written -/
theorem rgF.link {g : Nat → Int64} (h : rgF g) {k : Nat} {v : Int64} (hv : -1 ≤ v.toInt ∧ v.toInt < 6400) : rgF (vp_updL g k v) := fun a b ha hb => by
  by_cases e : 17 * a + b = k
  · rw [e, pk_uLs]; exact hv
  · rw [pk_uLn e]; exact h a b ha hb
/-- a set of kinds -/
def sK (l : List Nat) (k : Nat) : Bool := l.contains k
/-- the one row of kind k1 says fields, the one of kind k2 values: a row's length is told as 0 to 20 -/
def XL (kI kJ : ClassId) (K : Nat → Nat) (L : List Nat) (f : Nat → va_E) (k1 k2 : Nat) : Prop := ∀ (q1 q2 : Nat) (gf : Nat → Int32) (gv : Nat → Int64), isr K L k1 q1 → isr K L k2 q2 → f q1 = .inl (kI, 300, .inl gf) → f q2 = .inl (kJ, 300, .inr (.inl gv)) → ∀ j, j < 300 → (gf j).toInt = 9 → 0 ≤ (gv j).toInt ∧ (gv j).toInt ≤ 20
def UN (K : Nat → Nat) (L : List Nat) : Prop := ∀ a b, a ∈ L → b ∈ L → K a = K b → a = b
theorem XL.fr {kI kJ : ClassId} {K : Nat → Nat} {L : List Nat} {f f2 : Nat → va_E} {k1 k2 : Nat} {S : Nat → Bool} (h : XL kI kJ K L f k1 k2) (hfr : FR S K L f f2) (h1 : S k1 = false) (h2 : S k2 = false) : XL kI kJ K L f2 k1 k2 := fun q1 q2 gf gv i1 i2 e1 e2 => h q1 q2 gf gv i1 i2 ((hfr q1 i1.1 (by rw [i1.2]; exact h1)).symm.trans e1) ((hfr q2 i2.1 (by rw [i2.2]; exact h2)).symm.trans e2)
theorem XL.mk {kI kJ : ClassId} {K : Nat → Nat} {L : List Nat} {f : Nat → va_E} {k1 k2 q1 q2 : Nat} {gf : Nat → Int32} {gv : Nat → Int64} (hU : UN K L) (i1 : isr K L k1 q1) (i2 : isr K L k2 q2) (e1 : f q1 = .inl (kI, 300, .inl gf)) (e2 : f q2 = .inl (kJ, 300, .inr (.inl gv))) (h : ∀ j, j < 300 → (gf j).toInt = 9 → 0 ≤ (gv j).toInt ∧ (gv j).toInt ≤ 20) : XL kI kJ K L f k1 k2 := fun p1 p2 hf hv j1 j2 d1 d2 => by
  have a1 := hU q1 p1 i1.1 j1.1 (i1.2.trans j1.2.symm)
  have a2 := hU q2 p2 i2.1 j2.1 (i2.2.trans j2.2.symm)
  subst a1
  subst a2
  have b := e1.symm.trans d1
  injection b with b
  injection b with _ b
  injection b with _ b
  injection b with b
  subst b
  have b := e2.symm.trans d2
  injection b with b
  injection b with _ b
  injection b with _ b
  injection b with b
  injection b with b
  subst b
  exact h
theorem sK_sub {l l2 : List Nat} (h : ∀ x ∈ l2, x ∈ l) : ∀ k, sK l k = false → sK l2 k = false := fun k hk => by
  cases h2 : sK l2 k with
  | false => rfl
  | true =>
    have h3 : k ∈ l2 := List.contains_iff_mem.mp h2
    have h4 : sK l k = true := List.contains_iff_mem.mpr (h k h3)
    rw [hk] at h4
    cases h4

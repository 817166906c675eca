-- WHAT THE REFERENCE'S back DOES, purely
/-- the reference's place o has not changed -/
def RSM (fC : Nat → Int32) (fF : Nat → Int64) (fR fW fC2 : Nat → Int32) (fF2 : Nat → Int64) (fR2 fW2 : Nat → Int32) (o : Nat) : Prop := fC2 o = fC o ∧ (∀ j, j < 17 → fF2 (17 * o + j) = fF (17 * o + j)) ∧ fR2 o = fR o ∧ ∀ i, i < 20 → fW2 (20 * o + i) = fW (20 * o + i)
def lnv (ps : Nat → Nat) (o : Option Nat) : Int64 := match o with
  | none => -1
  | some k => (Int32.ofNat (ps k)).toInt64
/-- n objects in the making at the places ps -/
def RB (fC : Nat → Int32) (fF : Nat → Int64) (fR fW fC1 : Nat → Int32) (fF1 : Nat → Int64) (fR1 fW1 : Nat → Int32) (n : Nat) (ps : Nat → Nat) (cs : Nat → Int32) (V : Nat → Nat → Int64) (N : Nat → Int → Option Nat) (Z : Nat → Int32) (W : Nat → Nat → Int32) : Prop := (∀ o, (∀ i, i < n → ¬ o = ps i) → RSM fC fF fR fW fC1 fF1 fR1 fW1 o) ∧ (∀ i, i < n → ps i < 6400) ∧ (∀ i j, i < n → j < n → ps i = ps j → i = j) ∧ ∀ i, i < n → fC1 (ps i) = cs i ∧ (∀ j, j < 17 → ¬ lkf j → ¬ j = 9 → fF1 (17 * ps i + j) = V i j) ∧ (∀ j : Nat, lkf j → fF1 (17 * ps i + j) = lnv ps (N i (j : Int))) ∧ fR1 (ps i) = Z i ∧ ∀ t, t < 20 → fW1 (20 * ps i + t) = W i t
section RBS
variable {fC fR fW fC1 fR1 fW1 : Nat → Int32} {fF fF1 : Nat → Int64} {n a : Nat} {ps : Nat → Nat} {cs : Nat → Int32} {V : Nat → Nat → Int64} {N : Nat → Int → Option Nat} {Z : Nat → Int32} {W : Nat → Nat → Int32}
theorem RSM.rf {o : Nat} : RSM fC fF fR fW fC fF fR fW o := ⟨rfl, fun _ _ => rfl, rfl, fun _ _ => rfl⟩
theorem rb_0 : RB fC fF fR fW fC fF fR fW 0 ps cs V N Z W := ⟨fun _ _ => RSM.rf, fun i hi => by omega, fun i j hi => by omega, fun i hi => by omega⟩
theorem rb_push {o : Nat} {c t : Int32} (h : RB fC fF fR fW fC1 fF1 fR1 fW n ps cs V (fun _ _ => none) Z (fun i t => fW (20 * ps i + t))) (ho : o < 6400) (hne : ∀ i, i < n → ¬ o = ps i) (hc : cs n = c) (hV : V n = ks_vals c t) (hZ : Z n = -1) (hbv : ∀ j, j < 17 → ¬ lkf j → bnF fF1 o c t (17 * o + j) = ks_vals c t j) (hbl : ∀ j, lkf j → bnF fF1 o c t (17 * o + j) = -1) (hbo : ∀ o2 j, j < 17 → ¬ o2 = o → bnF fF1 o c t (17 * o2 + j) = fF1 (17 * o2 + j)) : RB fC fF fR fW (upd fC1 o c) (bnF fF1 o c t) (upd fR1 o (-1)) fW (n + 1) (va_up ps n o) cs V (fun _ _ => none) Z (fun i t => fW (20 * va_up ps n o i + t)) := by
  obtain ⟨h1, h2, h3, h4⟩ := h
  have ep : ∀ i, i < n → va_up ps n o i = ps i := fun i hi => va_up_ne _ _ (by omega)
  refine ⟨fun o2 h9 => ?_, fun i hi => ?_, fun i j hi hj e => ?_, fun i hi => ?_⟩
  · have hn : ¬ o2 = o := by
      have := h9 n (by omega)
      rw [va_up_self] at this
      exact this
    have hr := h1 o2 (fun i hi => by
      have := h9 i (by omega)
      rw [ep i hi] at this
      exact this)
    exact ⟨by rw [pk_un hn]; exact hr.1, fun j hj => by rw [hbo o2 j hj hn]; exact hr.2.1 j hj, by rw [pk_un hn]; exact hr.2.2.1, hr.2.2.2⟩
  · by_cases e : i = n
    · rw [e, va_up_self]; exact ho
    · rw [ep i (by omega)]; exact h2 i (by omega)
  · by_cases ei : i = n
    · by_cases ej : j = n
      · omega
      · rw [ei, va_up_self, ep j (by omega)] at e
        exact absurd e (hne j (by omega))
    · by_cases ej : j = n
      · rw [ej, va_up_self, ep i (by omega)] at e
        exact absurd e.symm (hne i (by omega))
      · rw [ep i (by omega), ep j (by omega)] at e
        exact h3 i j (by omega) (by omega) e
  · by_cases ei : i = n
    · subst ei
      rw [va_up_self]
      exact ⟨by rw [pk_us, hc], fun j q1 q2 q3 => by rw [hbv j q1 q2, hV], fun j q1 => by rw [hbl j q1]; rfl, by rw [pk_us, hZ], fun t ht => by show _ = fW (20 * va_up ps i o i + t); rw [va_up_self]⟩
    · have hi2 : i < n := by omega
      have hn : ¬ ps i = o := fun q => hne i hi2 q.symm
      obtain ⟨a1, a2, a3, a4, a5⟩ := h4 i hi2
      rw [ep i hi2]
      exact ⟨by rw [pk_un hn]; exact a1, fun j q1 q2 q3 => by rw [hbo _ j q1 hn]; exact a2 j q1 q2 q3, fun j q1 => by rw [hbo _ j (lk_lt q1) hn, a3 j q1]; rfl, by rw [pk_un hn]; exact a4, fun t ht => by show _ = fW (20 * va_up ps n o i + t); rw [ep i hi2]⟩
theorem rb_val {j : Nat} {v : Int64} (h : RB fC fF fR fW fC1 fF1 fR1 fW1 n ps cs V N Z W) (ha : a < n) (hj : j < 17) (hl : ¬ lkf j) : RB fC fF fR fW fC1 (vp_updL fF1 (17 * ps a + j) v) fR1 fW1 n ps cs (va_up V a (vp_updL (V a) j v)) N Z W := by
  obtain ⟨h1, h2, h3, h4⟩ := h
  refine ⟨fun o2 h9 => ?_, h2, h3, fun i hi => ?_⟩
  · have hr := h1 o2 h9
    have hn := h9 a ha
    exact ⟨hr.1, fun j2 hj2 => by rw [pk_uLn (by omega)]; exact hr.2.1 j2 hj2, hr.2.2⟩
  · obtain ⟨a1, a2, a3, a4, a5⟩ := h4 i hi
    refine ⟨a1, fun j2 q1 q2 q3 => ?_, fun j2 q1 => ?_, a4, a5⟩
    · by_cases e : i = a
      · subst e
        rw [va_up_self]
        by_cases ej : j2 = j
        · rw [ej, pk_uLs, pk_uLs]
        · rw [pk_uLn (by omega), pk_uLn ej]; exact a2 j2 q1 q2 q3
      · have hn : ¬ ps i = ps a := fun q => e (h3 i a hi ha q)
        rw [va_up_ne _ _ e, pk_uLn (by omega)]
        exact a2 j2 q1 q2 q3
    · have := lk_lt q1
      rw [pk_uLn (fun q => hl (by
        have e2 : j2 = j := by omega
        rw [← e2]; exact q1))]
      exact a3 j2 q1
theorem rb_link {b w : Nat} {v : Int64} (h : RB fC fF fR fW fC1 fF1 fR1 fW1 n ps cs V N Z W) (ha : a < n) (hw : lkf w) (hv : v = (Int32.ofNat (ps b)).toInt64) : RB fC fF fR fW fC1 (vp_updL fF1 (17 * ps a + w) v) fR1 fW1 n ps cs V (va_up N a (fun x => if x = (w : Int) then some b else N a x)) Z W := by
  obtain ⟨h1, h2, h3, h4⟩ := h
  have hw17 := lk_lt hw
  refine ⟨fun o2 h9 => ?_, h2, h3, fun i hi => ?_⟩
  · have hr := h1 o2 h9
    have hn := h9 a ha
    exact ⟨hr.1, fun j2 hj2 => by rw [pk_uLn (by omega)]; exact hr.2.1 j2 hj2, hr.2.2⟩
  · obtain ⟨a1, a2, a3, a4, a5⟩ := h4 i hi
    refine ⟨a1, fun j2 q1 q2 q3 => ?_, fun j2 q1 => ?_, a4, a5⟩
    · rw [pk_uLn (fun q => q2 (by
        have e2 : j2 = w := by omega
        rw [e2]; exact hw))]
      exact a2 j2 q1 q2 q3
    · have hj2 := lk_lt q1
      by_cases e : i = a
      · subst e
        rw [va_up_self]
        by_cases ej : j2 = w
        · rw [ej, pk_uLs, if_pos rfl]
          exact hv
        · rw [pk_uLn (by omega), if_neg (by omega)]
          exact a3 j2 q1
      · have hn : ¬ ps i = ps a := fun q => e (h3 i a hi ha q)
        rw [va_up_ne _ _ e, pk_uLn (by omega)]
        exact a3 j2 q1
theorem rb_row {v : Int32} (h : RB fC fF fR fW fC1 fF1 fR1 fW1 n ps cs V N Z W) (ha : a < n) : RB fC fF fR fW fC1 fF1 (upd fR1 (ps a) v) fW1 n ps cs V N (va_up Z a v) W := by
  obtain ⟨h1, h2, h3, h4⟩ := h
  refine ⟨fun o2 h9 => ?_, h2, h3, fun i hi => ?_⟩
  · have hr := h1 o2 h9
    exact ⟨hr.1, hr.2.1, by rw [pk_un (h9 a ha)]; exact hr.2.2.1, hr.2.2.2⟩
  · obtain ⟨a1, a2, a3, a4, a5⟩ := h4 i hi
    refine ⟨a1, a2, a3, ?_, a5⟩
    by_cases e : i = a
    · subst e
      rw [va_up_self, pk_us]
    · have hn : ¬ ps i = ps a := fun q => e (h3 i a hi ha q)
      rw [va_up_ne _ _ e, pk_un hn]
      exact a4
theorem rb_place {t : Nat} {v : Int32} (h : RB fC fF fR fW fC1 fF1 fR1 fW1 n ps cs V N Z W) (ha : a < n) (ht : t < 20) : RB fC fF fR fW fC1 fF1 fR1 (upd fW1 (20 * ps a + t) v) n ps cs V N Z (va_up W a (upd (W a) t v)) := by
  obtain ⟨h1, h2, h3, h4⟩ := h
  refine ⟨fun o2 h9 => ?_, h2, h3, fun i hi => ?_⟩
  · have hr := h1 o2 h9
    have hn := h9 a ha
    exact ⟨hr.1, hr.2.1, hr.2.2.1, fun i hi => by rw [pk_un (by omega)]; exact hr.2.2.2 i hi⟩
  · obtain ⟨a1, a2, a3, a4, a5⟩ := h4 i hi
    refine ⟨a1, a2, a3, a4, fun q hq => ?_⟩
    by_cases e : i = a
    · subst e
      rw [va_up_self]
      by_cases eq : q = t
      · rw [eq, pk_us, pk_us]
      · rw [pk_un (by omega), pk_un eq]; exact a5 q hq
    · have hn : ¬ ps i = ps a := fun q => e (h3 i a hi ha q)
      rw [va_up_ne _ _ e, pk_un (by omega)]
      exact a5 q hq
end RBS
section BIRTH
variable {fF : Nat → Int64} {c n : Int32}
theorem bnK_in {o j : Nat} (hj : j < 17) : bnK fF o 17 (17 * o + j) = if j = 8 ∨ j = 11 ∨ j = 15 then -1 else 0 := by
  have h1 : bnK fF o 17 (17 * o + j) = if 17 * o + j = 17 * o + 8 ∨ 17 * o + j = 17 * o + 11 ∨ 17 * o + j = 17 * o + 15 then -1 else 0 := if_pos (by omega)
  rw [h1]
  by_cases hl : j = 8 ∨ j = 11 ∨ j = 15
  · rw [if_pos hl, if_pos (by omega)]
  · rw [if_neg hl, if_neg (by omega)]
theorem bnK_out {o o2 j : Nat} (hj : j < 17) (hn : ¬ o2 = o) : bnK fF o 17 (17 * o2 + j) = fF (17 * o2 + j) := if_neg (by omega)
theorem bnF_out {o o2 j : Nat} (hj : j < 17) (hn : ¬ o2 = o) : bnF fF o c n (17 * o2 + j) = fF (17 * o2 + j) := by
  unfold bnF
  split
  · rw [pk_uLn (by omega), bnK_out hj hn]
  · split
    · rw [pk_uLn (by omega), bnK_out hj hn]
    · exact bnK_out hj hn
theorem bnF_lk {o j : Nat} (hl : j = 8 ∨ j = 11 ∨ j = 15) : bnF fF o c n (17 * o + j) = -1 := by
  have h1 : bnK fF o 17 (17 * o + j) = -1 := by rw [bnK_in (by omega), if_pos hl]
  unfold bnF
  split
  · rw [pk_uLn (by omega), h1]
  · split
    · rw [pk_uLn (by omega), h1]
    · exact h1
/-- the values at a birth are the class's -/
theorem bnF_vl {o j : Nat} (hj : j < 17) (hl : ¬ lkf j) : bnF fF o c n (17 * o + j) = ks_vals c n j := by
  have h1 : bnK fF o 17 (17 * o + j) = 0 := by
    rw [bnK_in hj, if_neg (by unfold lkf at hl; omega)]
  have e13 : Int32.toNatClampNeg 13 = 13 := by decide
  have e16 : Int32.toNatClampNeg 16 = 16 := by decide
  unfold bnF ks_vals
  rw [e13, e16]
  by_cases h2 : c.toInt = 2
  · rw [if_pos h2, if_pos h2]
    by_cases e : j = 13
    · rw [e, pk_uLs, pk_uLs]
    · rw [pk_uLn (by omega), pk_uLn e, h1]
  · rw [if_neg h2, if_neg h2]
    by_cases h4 : c.toInt = 4
    · rw [if_pos h4, if_pos h4]
      by_cases e : j = 16
      · rw [e, pk_uLs, pk_uLs]
      · rw [pk_uLn (by omega), pk_uLn e, h1]
    · rw [if_neg h4, if_neg h4]
      exact h1
theorem ks_vals_no {j : Nat} (hc : 0 ≤ c.toInt ∧ c.toInt ≤ 4) (hh : ¬ hs c.toInt (j : Int) = true) : ks_vals c n j = 0 := by
  have e13 : Int32.toNatClampNeg 13 = 13 := by decide
  have e16 : Int32.toNatClampNeg 16 = 16 := by decide
  have hh := mt hs_iff.mpr hh
  unfold ks_vals
  rw [e13, e16]
  split
  · rw [pk_uLn (by omega)]
  · split
    · rw [pk_uLn (by omega)]
    · rfl
theorem bnF_bg {o : Nat} : BG fF (bnF fF o c n) o 17 := by
  refine ⟨fun o2 j hj hn => bnF_out (by unfold lkf at hj; omega) hn, fun j hj _ => ?_⟩
  unfold lkf at hj
  rw [bnF_lk hj]
  decide
end BIRTH
-- the leaves, one by one
def rstV (x : Int32 × Int32 × Int64) (V : Nat → Nat → Int64) : Nat → Nat → Int64 := if (0 ≤ x.2.1.toInt ∧ x.2.1.toInt < 17 ∧ ¬ x.2.1.toInt = 8 ∧ ¬ x.2.1.toInt = 9 ∧ ¬ x.2.1.toInt = 11 ∧ ¬ x.2.1.toInt = 15) then va_up V (Int32.toNatClampNeg x.1) (vp_updL (V (Int32.toNatClampNeg x.1)) (Int32.toNatClampNeg x.2.1) (rs_val x.2.1 x.2.2)) else V
def rstZ (x : Int32 × Int32 × Int64) (Z : Nat → Int32) : Nat → Int32 := if x.2.1.toInt = 9 then va_up Z (Int32.toNatClampNeg x.1) x.2.2.toInt32 else Z
def rstW (x : Int32 × Int32 × Int64) (W : Nat → Nat → Int32) : Nat → Nat → Int32 := if 100 ≤ x.2.1.toInt then va_up W (Int32.toNatClampNeg x.1) (upd (W (Int32.toNatClampNeg x.1)) (x.2.1.toInt - 100).toNat x.2.2.toInt32) else W
def rfd (n : Nat) (cs : Nat → Int32) (x : Int32 × Int32 × Int64) : Int32 := if x.2.1.toInt = 8 ∨ x.2.1.toInt = 11 ∨ x.2.1.toInt = 15 then (if 0 ≤ x.2.2.toInt ∧ x.2.2.toInt < (n : Int) then (if ((x.2.1.toInt = 8 ∧ (cs x.2.2.toInt.toNat).toInt < 3) ∨ (¬ x.2.1.toInt = 8 ∧ x.2.1.toInt = 11 ∧ ((cs x.2.2.toInt.toNat).toInt = 1 ∨ (cs x.2.2.toInt.toNat).toInt = 2)) ∨ (¬ x.2.1.toInt = 8 ∧ ¬ x.2.1.toInt = 11 ∧ (cs x.2.2.toInt.toNat).toInt < 4)) then 0 else -14) else -12) else 0
def rfcl (n : Nat) (cs : Nat → Int32) : List (Int32 × Int32 × Int64) → Int32
  | [] => 0
  | x :: t => if rfd n cs x = 0 then rfcl n cs t else rfd n cs x
def csT (ll : List (Int32 × Int32 × Int64)) (i : Nat) : Int32 := (tol ll (Int32.ofNat i) (-1)).toInt32
def tnT (ll : List (Int32 × Int32 × Int64)) (i : Nat) : Int32 := (tol ll (Int32.ofNat i) (if (csT ll i).toInt = 2 then 13 else 16)).toInt32
def badT (ll : List (Int32 × Int32 × Int64)) (i : Nat) : Prop := (tol ll (Int32.ofNat i) (-1)).toInt = 2 ∧ ¬ (0 ≤ (tol ll (Int32.ofNat i) 13).toInt32.toInt ∧ (tol ll (Int32.ofNat i) 13).toInt32.toInt ≤ 1000)
/-- the leaves are fit for back: n objects -/
def FIT (ll : List (Int32 × Int32 × Int64)) (n : Nat) : Prop := n ≤ 24 ∧ (∀ (i : Nat) (x : Int32 × Int32 × Int64), ll[i]? = some x → (0 ≤ x.1.toInt ∧ x.1.toInt < (n : Int)) ∧ (x.2.1.toInt = 9 → 0 ≤ x.2.2.toInt ∧ x.2.2.toInt ≤ 20)) ∧ ∀ (x : Int32 × Int32 × Int64), ll[ll.length - 1]? = some x → x.1.toInt + 1 = (n : Int)
def rs_back (ll : List (Int32 × Int32 × Int64)) (n : Nat) (s r : Int32) : Prop := (¬ (0 ≤ s.toInt ∧ s.toInt < 12) → r = -1) ∧ ((0 ≤ s.toInt ∧ s.toInt < 12) → ll = [] → r = -3) ∧ ((0 ≤ s.toInt ∧ s.toInt < 12) → ¬ ll = [] → (∃ i, i < n ∧ badT ll i) → r = -18) ∧ ((0 ≤ s.toInt ∧ s.toInt < 12) → ¬ ll = [] → (∀ i, i < n → ¬ badT ll i) → ¬ rfcl n (csT ll) ll = 0 → r = rfcl n (csT ll) ll) ∧ ((0 ≤ s.toInt ∧ s.toInt < 12) → ¬ ll = [] → (∀ i, i < n → ¬ badT ll i) → rfcl n (csT ll) ll = 0 → r.toInt = (n : Int))
def rv_back (fS fC : Nat → Int32) (fF : Nat → Int64) (fR fW : Nat → Int32) (ll : List (Int32 × Int32 × Int64)) (n nE nB : Nat) (s : Int32) (fS2 fC2 : Nat → Int32) (fF2 : Nat → Int64) (fR2 fW2 : Nat → Int32) : Prop := (¬ ((0 ≤ s.toInt ∧ s.toInt < 12) ∧ ¬ ll = [] ∧ ∀ i, i < n → ¬ badT ll i) ∧ fS2 = fS ∧ fC2 = fC ∧ fF2 = fF ∧ fR2 = fR ∧ fW2 = fW) ∨ (((0 ≤ s.toInt ∧ s.toInt < 12) ∧ ¬ ll = [] ∧ ∀ i, i < n → ¬ badT ll i) ∧ ∃ (z : Nat → Int32) (ps : Nat → Nat), MK fS fC fF z ∧ (∀ i, i < n → z (ps i) = 0) ∧ ((¬ rfcl n (csT ll) ll = 0 ∧ fS2 = fS ∧ GI fS2 fC2 fF2 nE (nB + 24) ∧ ∀ o, (∀ i, i < n → ¬ o = ps i) → RSM fC fF fR fW fC2 fF2 fR2 fW2 o) ∨ (rfcl n (csT ll) ll = 0 ∧ (∃ v : Int32, fS2 = upd fS (Int32.toNatClampNeg s) v ∧ 0 ≤ v.toInt ∧ Int32.toNatClampNeg v = ps 0) ∧ GI fS2 fC2 fF2 nE (nB + 24) ∧ RB fC fF fR fW fC2 fF2 fR2 fW2 n ps (csT ll) (ll.foldl (fun s x => rstV x s) (fun i => ks_vals (csT ll i) (tnT ll i))) (ll.foldl (fun s x => stN x s) (fun _ _ => none)) (ll.foldl (fun s x => rstZ x s) (fun _ => -1)) (ll.foldl (fun s x => rstW x s) (fun i t => fW (20 * ps i + t))))))
section RFS
variable {z : Int32} {n d : Nat → Int32} {v : Nat → Int64} {l : List (Int32 × Int32 × Int64)} {i i2 : Int32}
theorem rfcl_next {m : Nat} {cs : Nat → Int32} (h : LSv z n d v l) (h0 : 0 ≤ i.toInt) (h1 : i.toInt < z.toInt) (hn : rfd m cs (n (Int32.toNatClampNeg i), d (Int32.toNatClampNeg i), v (Int32.toNatClampNeg i)) = 0) (e : i2.toInt = i.toInt + 1) : rfcl m cs (l.drop (Int32.toNatClampNeg i)) = rfcl m cs (l.drop (Int32.toNatClampNeg i2)) := by
  rw [drop_at h h0 h1, cl_succ h0 e]
  exact if_pos hn
theorem rfcl_hit {m : Nat} {cs : Nat → Int32} (h : LSv z n d v l) (h0 : 0 ≤ i.toInt) (h1 : i.toInt < z.toInt) (hn : ¬ rfd m cs (n (Int32.toNatClampNeg i), d (Int32.toNatClampNeg i), v (Int32.toNatClampNeg i)) = 0) : rfcl m cs (l.drop (Int32.toNatClampNeg i)) = rfd m cs (n (Int32.toNatClampNeg i), d (Int32.toNatClampNeg i), v (Int32.toNatClampNeg i)) := by
  rw [drop_at h h0 h1]
  exact if_neg hn
theorem rfcl_end {m : Nat} {cs : Nat → Int32} (h : LSv z n d v l) (h0 : 0 ≤ i.toInt) (h1 : ¬ i.toInt < z.toInt) : rfcl m cs (l.drop (Int32.toNatClampNeg i)) = 0 := by
  rw [drop_end h h0 h1]
  rfl
theorem foldl_at {α : Type} (st : (Int32 × Int32 × Int64) → α → α) (s0 : α) (h : LSv z n d v l) (h0 : 0 ≤ i.toInt) (h1 : i.toInt < z.toInt) (e : i2.toInt = i.toInt + 1) : (l.take (Int32.toNatClampNeg i2)).foldl (fun s x => st x s) s0 = st (n (Int32.toNatClampNeg i), d (Int32.toNatClampNeg i), v (Int32.toNatClampNeg i)) ((l.take (Int32.toNatClampNeg i)).foldl (fun s x => st x s) s0) := by
  rw [take_at h h0 h1 e, List.foldl_append]
  rfl
end RFS
section MARKS
variable {zM z1 gM : Nat → Int32} {ps : Nat → Nat} {o k : Nat} {r : Int32}
theorem mk_push (h : (∀ o, zM o ≠ 0 → z1 o ≠ 0) ∧ ∀ i, i < k → z1 (ps i) ≠ 0 ∧ zM (ps i) = 0 ∧ Int32.toNatClampNeg (gM i) = ps i) (hz : z1 o = 0) (hr : Int32.toNatClampNeg r = o) : (∀ o2, zM o2 ≠ 0 → upd z1 o (vp_nar .boolean 1) o2 ≠ 0) ∧ ∀ i, i < k + 1 → upd z1 o (vp_nar .boolean 1) (va_up ps k o i) ≠ 0 ∧ zM (va_up ps k o i) = 0 ∧ Int32.toNatClampNeg (upd gM k r i) = va_up ps k o i := by
  refine ⟨fun o2 h2 => upd_ne0 nz1 (h.1 o2 h2), fun i hi => ?_⟩
  by_cases e : i = k
  · rw [e, va_up_self, pk_us, pk_us]
    exact ⟨nz1, Classical.byContradiction (fun q => h.1 o q hz), hr⟩
  · obtain ⟨a1, a2, a3⟩ := h.2 i (by omega)
    rw [va_up_ne _ _ e, pk_un e]
    exact ⟨upd_ne0 nz1 a1, a2, a3⟩
end MARKS
theorem bad_step {ll : List (Int32 × Int32 × Int64)} {i i2 : Int32} (h : ∀ j : Nat, (j : Int) < i.toInt → ¬ badT ll j) (h0 : 0 ≤ i.toInt) (hn : ¬ badT ll (Int32.toNatClampNeg i)) (e : i2.toInt = i.toInt + 1) : ∀ j : Nat, (j : Int) < i2.toInt → ¬ badT ll j := fun j hj => by
  have hc := clamp_int h0
  by_cases q : j = Int32.toNatClampNeg i
  · rw [q]; exact hn
  · exact h j (by omega)
section STEPS
variable {a b : Int32} {c : Int64} {V : Nat → Nat → Int64} {N : Nat → Int → Option Nat} {Z : Nat → Int32} {W : Nat → Nat → Int32} {n : Nat} {cs : Nat → Int32}
theorem rstV_no (h : ¬ (0 ≤ b.toInt ∧ b.toInt < 17 ∧ ¬ b.toInt = 8 ∧ ¬ b.toInt = 9 ∧ ¬ b.toInt = 11 ∧ ¬ b.toInt = 15)) : rstV (a, b, c) V = V := if_neg h
theorem rstV_in (h : 0 ≤ b.toInt ∧ b.toInt < 17 ∧ ¬ b.toInt = 8 ∧ ¬ b.toInt = 9 ∧ ¬ b.toInt = 11 ∧ ¬ b.toInt = 15) : rstV (a, b, c) V = va_up V (Int32.toNatClampNeg a) (vp_updL (V (Int32.toNatClampNeg a)) (Int32.toNatClampNeg b) (rs_val b c)) := if_pos h
theorem stN_no (h : ¬ (b.toInt = 8 ∨ b.toInt = 11 ∨ b.toInt = 15)) : stN (a, b, c) N = N := if_neg h
theorem stN_in (h : b.toInt = 8 ∨ b.toInt = 11 ∨ b.toInt = 15) : stN (a, b, c) N = va_up N (Int32.toNatClampNeg a) (fun w => if w = b.toInt then some c.toInt.toNat else N (Int32.toNatClampNeg a) w) := if_pos h
theorem rstZ_no (h : ¬ b.toInt = 9) : rstZ (a, b, c) Z = Z := if_neg h
theorem rstZ_in (h : b.toInt = 9) : rstZ (a, b, c) Z = va_up Z (Int32.toNatClampNeg a) c.toInt32 := if_pos h
theorem rstW_no (h : ¬ 100 ≤ b.toInt) : rstW (a, b, c) W = W := if_neg h
theorem rstW_in (h : 100 ≤ b.toInt) : rstW (a, b, c) W = va_up W (Int32.toNatClampNeg a) (upd (W (Int32.toNatClampNeg a)) (b.toInt - 100).toNat c.toInt32) := if_pos h
theorem rfd_no (h : ¬ (b.toInt = 8 ∨ b.toInt = 11 ∨ b.toInt = 15)) : rfd n cs (a, b, c) = 0 := if_neg h
theorem rfd_lk (h : b.toInt = 8 ∨ b.toInt = 11 ∨ b.toInt = 15) : rfd n cs (a, b, c) = (if 0 ≤ c.toInt ∧ c.toInt < (n : Int) then (if ((b.toInt = 8 ∧ (cs c.toInt.toNat).toInt < 3) ∨ (¬ b.toInt = 8 ∧ b.toInt = 11 ∧ ((cs c.toInt.toNat).toInt = 1 ∨ (cs c.toInt.toNat).toInt = 2)) ∨ (¬ b.toInt = 8 ∧ ¬ b.toInt = 11 ∧ (cs c.toInt.toNat).toInt < 4)) then 0 else -14) else -12) := if_pos h
end STEPS


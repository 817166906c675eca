-- ALL LEAVES of an object
def tls (no : Int32) (C : Nat → Int32) (V : Nat → Nat → Int64) (N : Nat → Int → Option Nat) (R : Nat → Option (Nat × (Nat → Int32))) (l : List Nat) (k : Nat) : List (Int32 × Int32 × Int64) := lob (C (l.getD k 0)) (lff (nbr no l) (V (l.getD k 0)) (N (l.getD k 0)) (R (l.getD k 0)) (Int32.ofNat k)) (Int32.ofNat k)
def tlS (no : Int32) (C : Nat → Int32) (V : Nat → Nat → Int64) (N : Nat → Int → Option Nat) (R : Nat → Option (Nat × (Nat → Int32))) (x : Nat) : Option (List (Int32 × Int32 × Int64)) := match fd N 25 0 [x] with
  | none => none
  | some l => if (lall (tls no C V N R l) l.length).length ≤ 300 then some (lall (tls no C V N R l) l.length) else none
section TELLS
variable {kT kI kJ : ClassId} {K : Nat → Nat} {L : List Nat} {f f1 f2 : Nat → va_E} {ow : Nat → Nat} {x y t h : Nat} {lf : List Nat}
theorem TF.th (hT : TF K L ow y h f f2) (hPI : PI kT kI kJ K L f) (hy : isr K L 0 y) (ht : isr K L 1 t) : g_cn f2 t = g_cn f t ∧ g_vl f2 t = g_vl f t ∧ g_lk f2 t = g_lk f t ∧ g_rw f2 t = g_rw f t := by
  obtain ⟨cn, u, b, m, st, i, e, hu, hb, hm, hs, hi⟩ := hPI.a1 ht
  have e2 := hT.at hy ht (by decide)
  have eu := hT.at hy hu (by decide)
  refine ⟨by unfold g_cn; rw [e2], by unfold g_vl; rw [e2, th_pv e, eu], by funext w; unfold g_lk; rw [e2], ?_⟩
  unfold g_rw
  rw [e2, th_i e]
  cases i with
  | none => rfl
  | some r =>
    show some (aN (f2 r), aI (f2 r)) = some (aN (f r), aI (f r))
    rw [hT.at hy (hi r rfl) (by decide)]
/-- the list is emptied -/
theorem size_0 {a b c : Nat} {z z2 : Int32} (hy : isr K L 0 y) (e : f y = .inr (0, [.ref a, .ref b, .ref c, .int z])) (e2 : va_up f y (.inr (0, [.ref a, .ref b, .ref c, .int z2])) = f2) (hz : z2.toInt = 0) : TL K L ow y f f2 ∧ LSt f2 y [] ∧ g_lk f2 = g_lk f := by
  have ey : f2 y = .inr (0, [.ref a, .ref b, .ref c, .int z2]) := by rw [← e2, va_up_self]
  refine ⟨⟨fun q hq hn => ?_, by rw [li_pn ey, li_pn e], by rw [li_pd ey, li_pd e], by rw [li_pv ey, li_pv e]⟩, LSv.nil (by rw [li_z ey]; exact hz), ?_⟩
  · rw [← e2, va_up_ne _ _ (fun h => hn (Or.inl h))]
  · funext t w
    by_cases et : t = y
    · subst et
      unfold g_lk
      rw [ey, e]
      rfl
    · unfold g_lk
      rw [← e2, va_up_ne _ _ et]
theorem getD_at {i : Int32} (h0 : 0 ≤ i.toInt) (h1 : i.toInt < (lf.length : Int)) : lf[Int32.toNatClampNeg i]? = some (lf.getD (Int32.toNatClampNeg i) 0) := by
  have hc := clamp_int h0
  have hl : Int32.toNatClampNeg i < lf.length := by omega
  rw [List.getD_eq_getElem?_getD, List.getElem?_eq_getElem hl]
  rfl
theorem tlS_none1 {no : Int32} {C : Nat → Int32} {V : Nat → Nat → Int64} {N : Nat → Int → Option Nat} {R : Nat → Option (Nat × (Nat → Int32))} (h : ¬ (fd N 25 0 [x]).isSome = true) : tlS no C V N R x = none := by
  unfold tlS
  cases e : fd N 25 0 [x] with
  | none => rfl
  | some l => rw [e] at h; exact absurd rfl h
theorem tlS_none2 {no : Int32} {C : Nat → Int32} {V : Nat → Nat → Int64} {N : Nat → Int → Option Nat} {R : Nat → Option (Nat × (Nat → Int32))} (h : fd N 25 0 [x] = some lf) (h2 : 300 < (lall (tls no C V N R lf) lf.length).length) : tlS no C V N R x = none := by
  unfold tlS
  rw [h]
  exact if_neg (by omega)
theorem tlS_some {no : Int32} {C : Nat → Int32} {V : Nat → Nat → Int64} {N : Nat → Int → Option Nat} {R : Nat → Option (Nat × (Nat → Int32))} (h : fd N 25 0 [x] = some lf) (h2 : (lall (tls no C V N R lf) lf.length).length ≤ 300) : tlS no C V N R x = some (lall (tls no C V N R lf) lf.length) := by
  unfold tlS
  rw [h]
  exact if_pos h2
/-- how the object told next stands among all -/
theorem tls_at {no : Int32} {C : Nat → Int32} {V : Nat → Nat → Int64} {N : Nat → Int → Option Nat} {R : Nat → Option (Nat × (Nat → Int32))} {i : Int32} (h0 : 0 ≤ i.toInt) : tls no C V N R lf (Int32.toNatClampNeg i) = lob (C (lf.getD (Int32.toNatClampNeg i) 0)) (lff (nbr no lf) (V (lf.getD (Int32.toNatClampNeg i) 0)) (N (lf.getD (Int32.toNatClampNeg i) 0)) (R (lf.getD (Int32.toNatClampNeg i) 0)) i) i := by
  unfold tls
  rw [ofNat_clamp h0]
end TELLS
theorem FF.ls {kT kI kJ : ClassId} {K : Nat → Nat} {L : List Nat} {f f2 : Nat → va_E} {h y : Nat} {l : List (Int32 × Int32 × Int64)} (hF : FF K L h f f2) (hPI : PI kT kI kJ K L f) (hy : isr K L 0 y) (hl : LSt f y l) : LSt f2 y l := by
  obtain ⟨a, b, c, z, e, ha, hb, hc, hz⟩ := hPI.a0 hy
  unfold LSt l_z l_n l_d l_v at hl ⊢
  rw [li_pn e, li_pd e, li_pv e] at hl
  rw [hF.at hy rfl, li_pn e, li_pd e, li_pv e, hF.at ha rfl, hF.at hb rfl, hF.at hc rfl]
  exact hl


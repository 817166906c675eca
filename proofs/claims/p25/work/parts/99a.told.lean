-- WHAT IS TOLD: lemmas of the leaves of one object
def rowLp (k : Int32) (m : Nat) (g : Nat → Int32) (i : Nat) : List (Int32 × Int32 × Int64) := (k, 9, (Int32.ofNat m).toInt64) :: (List.range i).map (fun i => (k, 100 + Int32.ofNat i, (g i).toInt64))
theorem ofNat_clamp {i : Int32} (h : 0 ≤ i.toInt) : Int32.ofNat (Int32.toNatClampNeg i) = i := by
  have hc := clamp_int h
  apply Int32.toInt_inj.mp
  rw [oN_toInt (n := Int32.toNatClampNeg i) (by have := Int32.toInt_lt i; omega)]
  omega
section TOLD
variable {nb : Nat → Int32} {V : Nat → Int64} {N : Int → Option Nat} {R : Option (Nat × (Nat → Int32))} {k w : Int32} {ll : List (Int32 × Int32 × Int64)} {F : Nat → List (Int32 × Int32 × Int64)}
theorem row_step {m : Nat} {g : Nat → Int32} {i i2 d v : Int32} (h0 : 0 ≤ i.toInt) (ed : d = 100 + i) (ev : v = g (Int32.toNatClampNeg i)) (e2 : i2.toInt = i.toInt + 1) : ll ++ rowLp k m g (Int32.toNatClampNeg i2) = (ll ++ rowLp k m g (Int32.toNatClampNeg i)) ++ [(k, d, v.toInt64)] := by
  have h1 := clamp_int h0
  have h2 := clamp_int (i := i2) (by omega)
  have e : Int32.toNatClampNeg i2 = Int32.toNatClampNeg i + 1 := by omega
  unfold rowLp
  rw [e, List.range_succ, List.map_append, ed, ev, List.append_assoc]
  simp only [List.map_cons, List.map_nil, List.cons_append, ofNat_clamp h0]
theorem row_0 {m : Nat} {g : Nat → Int32} : ll ++ rowLp k m g 0 = ll ++ [(k, 9, (Int32.ofNat m).toInt64)] := rfl
theorem row_le {m i : Nat} {g : Nat → Int32} (h : i ≤ m) : (ll ++ rowLp k m g i).length ≤ (ll ++ rowL k m g).length := by
  unfold rowLp rowL
  simp
  omega
theorem lff_l0 (hw : w.toInt = 8 ∨ w.toInt = 11 ∨ w.toInt = 15) (hN : N w.toInt = none) : lff nb V N R k (Int32.toNatClampNeg w) = [] := by
  have hc := clamp_int (i := w) (by omega)
  unfold lff
  rw [if_pos (by omega), hc, hN]
theorem lff_l1 {u : Nat} (hw : w.toInt = 8 ∨ w.toInt = 11 ∨ w.toInt = 15) (hN : N w.toInt = some u) : lff nb V N R k (Int32.toNatClampNeg w) = [(k, w, (nb u).toInt64)] := by
  have hc := clamp_int (i := w) (by omega)
  unfold lff
  rw [if_pos (by omega), hc, hN, ofNat_clamp (by omega)]
theorem lff_r0 (hw : w.toInt = 9) (hR : R = none) : lff nb V N R k (Int32.toNatClampNeg w) = [] := by
  have hc := clamp_int (i := w) (by omega)
  unfold lff
  rw [if_neg (by omega), if_pos (by omega), hR]
theorem lff_r1 {m : Nat} {g : Nat → Int32} (hw : w.toInt = 9) (hR : R = some (m, g)) : lff nb V N R k (Int32.toNatClampNeg w) = rowL k m g := by
  have hc := clamp_int (i := w) (by omega)
  unfold lff
  rw [if_neg (by omega), if_pos (by omega), hR]
theorem lff_v0 (hw : 0 ≤ w.toInt ∧ ¬ (w.toInt = 8 ∨ w.toInt = 11 ∨ w.toInt = 15) ∧ ¬ w.toInt = 9) (hV : V (Int32.toNatClampNeg w) = 0) : lff nb V N R k (Int32.toNatClampNeg w) = [] := by
  have hc := clamp_int (i := w) (by omega)
  unfold lff
  rw [if_neg (by omega), if_neg (by omega), if_pos hV]
theorem lff_v1 (hw : 0 ≤ w.toInt ∧ ¬ (w.toInt = 8 ∨ w.toInt = 11 ∨ w.toInt = 15) ∧ ¬ w.toInt = 9) (hV : ¬ V (Int32.toNatClampNeg w) = 0) : lff nb V N R k (Int32.toNatClampNeg w) = [(k, w, V (Int32.toNatClampNeg w))] := by
  have hc := clamp_int (i := w) (by omega)
  unfold lff
  rw [if_neg (by omega), if_neg (by omega), if_neg hV, ofNat_clamp (by omega)]
theorem lfs_mono {i j : Nat} (h : i ≤ j) : (lfs F i).length ≤ (lfs F j).length := by
  induction j with
  | zero => rw [Nat.le_zero.mp h]; exact Nat.le_refl _
  | succ j ih =>
    by_cases e : i = j + 1
    · rw [e]; exact Nat.le_refl _
    · show _ ≤ (lfs F j ++ F j).length
      have := ih (by omega)
      simp
      omega
theorem lfs_step {i i2 : Int32} {x : Int32 × Int32 × Int64} (h0 : 0 ≤ i.toInt) (e2 : i2.toInt = i.toInt + 1) : ll ++ x :: lfs F (Int32.toNatClampNeg i2) = (ll ++ x :: lfs F (Int32.toNatClampNeg i)) ++ F (Int32.toNatClampNeg i) := by
  have h1 := clamp_int h0
  have h2 := clamp_int (i := i2) (by omega)
  have e : Int32.toNatClampNeg i2 = Int32.toNatClampNeg i + 1 := by omega
  rw [e]
  show ll ++ x :: (lfs F _ ++ F _) = _
  simp
theorem lob_le {c : Int32} {i : Int32} (h0 : 0 ≤ i.toInt) (h1 : i.toInt < 17) : ((ll ++ (k, -1, c.toInt64) :: lfs F (Int32.toNatClampNeg i)) ++ F (Int32.toNatClampNeg i)).length ≤ (ll ++ lob c F k).length := by
  have hc := clamp_int h0
  have h := lfs_mono (F := F) (i := Int32.toNatClampNeg i + 1) (j := 17) (by omega)
  have e : lfs F (Int32.toNatClampNeg i + 1) = lfs F (Int32.toNatClampNeg i) ++ F (Int32.toNatClampNeg i) := rfl
  rw [e] at h
  unfold lob
  simp at h ⊢
  omega
theorem lall_mono {O : Nat → List (Int32 × Int32 × Int64)} {i j : Nat} (h : i ≤ j) : (lall O i).length ≤ (lall O j).length := by
  induction j with
  | zero => rw [Nat.le_zero.mp h]; exact Nat.le_refl _
  | succ j ih =>
    by_cases e : i = j + 1
    · rw [e]; exact Nat.le_refl _
    · show _ ≤ (lall O j ++ O j).length
      have := ih (by omega)
      simp
      omega
theorem lall_step {O : Nat → List (Int32 × Int32 × Int64)} {i i2 : Int32} (h0 : 0 ≤ i.toInt) (e2 : i2.toInt = i.toInt + 1) : lall O (Int32.toNatClampNeg i2) = lall O (Int32.toNatClampNeg i) ++ O (Int32.toNatClampNeg i) := by
  have h1 := clamp_int h0
  have h2 := clamp_int (i := i2) (by omega)
  have e : Int32.toNatClampNeg i2 = Int32.toNatClampNeg i + 1 := by omega
  rw [e]
  rfl
end TOLD
section TOLD2
variable {kT kI kJ : ClassId} {K : Nat → Nat} {L : List Nat} {f f2 : Nat → va_E} {ow : Nat → Nat} {x y t h : Nat} {l : List (Int32 × Int32 × Int64)} {lf : List Nat} {r n d : Int32} {v : Int64}
/-- the views of an object stay -/
theorem TL.th (hT : TL K L ow y f f2) (hPI : PI kT kI kJ K L f) (hy : isr K L 0 y) (ht : isr K L 1 t) : g_cn f2 t = g_cn f t ∧ g_vl f2 t = g_vl f t ∧ g_lk f2 t = g_lk f t ∧ g_rw f2 t = g_rw f t := by
  obtain ⟨cn, u, b, m, st, i, e, hu, hb, hm, hs, hi⟩ := hPI.a1 ht
  have e2 := hT.at hy ht (by decide)
  have eu := hT.at hy hu (by decide)
  refine ⟨by unfold g_cn; rw [e2], by unfold g_vl; rw [e2, th_pv e, eu], by funext w; unfold g_lk; rw [e2], ?_⟩
  unfold g_rw
  rw [e2, th_i e]
  cases i with
  | none => rfl
  | some r =>
    show some (aN (f2 r), aI (f2 r)) = some (aN (f r), aI (f r))
    rw [hT.at hy (hi r rfl) (by decide)]
theorem TL.fs (hT : TL K L ow y f f2) (hPI : PI kT kI kJ K L f) (hy : isr K L 0 y) (hh : isr K L 2 h) (hF : FS f h lf) : FS f2 h lf := by
  obtain ⟨q1, pc, c1, c2, c3, q5, fc, q7, mc, e, h1, h2, h3, h4, h5, h6, h7, h8⟩ := hPI.a2 hh
  have e2 := hT.at hy hh (by decide)
  unfold FS
  rw [e2, ob_q5 e, hT.at hy h5 (by decide)]
  have := hF
  unfold FS at this
  rw [ob_q5 e] at this
  exact this
/-- a leaf told, or no room -/
theorem add_told (hPI : PI kT kI kJ K L f) (hO : OWN K L f ow) (hy : isr K L 0 y) (hl : LSt f y l) (hw : bo r ((l_z f y).toInt < 300)) (e2 : f2 = ks_add f y n d v) : (TL K L ow y f f2 ∧ OWN K L f2 ow) ∧ ((r = 1 ∧ LSt f2 y (l ++ [(n, d, v)]) ∧ (l ++ [(n, d, v)]).length ≤ 300) ∨ (r = 0 ∧ 300 < (l ++ [(n, d, v)]).length)) := by
  have hz := hl.1
  rcases hw with ⟨rfl, hp⟩ | ⟨rfl, hp⟩
  · obtain ⟨h1, h2⟩ := add_ok hPI hO hy hl hp e2
    exact ⟨⟨h1, h1.own hy hO⟩, Or.inl ⟨rfl, h2, by rw [List.length_append]; simp; omega⟩⟩
  · have e3 : f2 = f := by rw [e2]; unfold ks_add; rw [if_neg hp]
    rw [e3]
    exact ⟨⟨TL.rf, hO⟩, Or.inr ⟨rfl, by rw [List.length_append]; simp; omega⟩⟩
end TOLD2
theorem LSt.le {kT kI kJ : ClassId} {K : Nat → Nat} {L : List Nat} {f : Nat → va_E} {y : Nat} {l : List (Int32 × Int32 × Int64)} (hl : LSt f y l) (hPI : PI kT kI kJ K L f) (hy : isr K L 0 y) : l.length ≤ 300 := by
  obtain ⟨a, b, c, z, e, ha, hb, hc, hz⟩ := hPI.a0 hy
  have h := hl.1
  rw [li_z e] at h
  omega
theorem row_fin {k : Int32} {m : Nat} {g : Nat → Int32} {i : Int32} (h0 : 0 ≤ i.toInt) (e : i.toInt = (m : Int)) : rowLp k m g (Int32.toNatClampNeg i) = rowL k m g := by
  have hc := clamp_int h0
  have e2 : Int32.toNatClampNeg i = m := by omega
  rw [e2]
  rfl
theorem lob_fin {k c : Int32} {F : Nat → List (Int32 × Int32 × Int64)} {i : Int32} (h0 : 0 ≤ i.toInt) (e : i.toInt = 17) : (k, (-1 : Int32), c.toInt64) :: lfs F (Int32.toNatClampNeg i) = lob c F k := by
  have hc := clamp_int h0
  have e2 : Int32.toNatClampNeg i = 17 := by omega
  rw [e2]
  rfl


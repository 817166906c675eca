-- THE LEAVES AS THEY ARE BUILT: n objects of classes c, fields D, rows R
def gff (D : Nat → Option Int64) (R : Option (Nat × (Nat → Int64))) (k : Int32) (j : Nat) : List (Int32 × Int32 × Int64) := if j = 9 then (match R with
  | none => []
  | some r => (k, 9, (Int32.ofNat r.1).toInt64) :: (List.range r.1).map (fun i => (k, 100 + Int32.ofNat i, r.2 i))) else (match D j with
  | none => []
  | some v => [(k, Int32.ofNat j, v)])
def sbl (c : Nat → Int32) (D : Nat → Nat → Option Int64) (R : Nat → Option (Nat × (Nat → Int64))) (k : Nat) : List (Int32 × Int32 × Int64) := lob (c k) (gff (D k) (R k) (Int32.ofNat k)) (Int32.ofNat k)
def sll (n : Nat) (c : Nat → Int32) (D : Nat → Nat → Option Int64) (R : Nat → Option (Nat × (Nat → Int64))) : List (Int32 × Int32 × Int64) := lall (sbl c D R) n
def WFd (n : Nat) (c : Nat → Int32) (D : Nat → Nat → Option Int64) (R : Nat → Option (Nat × (Nat → Int64))) : Prop := n ≤ 24 ∧ ∀ k, k < n → (0 ≤ (c k).toInt ∧ (c k).toInt ≤ 4) ∧ (∀ j, j < 17 → ¬ D k j = none → ¬ j = 9 → hs (c k).toInt (j : Int) = true) ∧ ∀ r, R k = some r → (c k).toInt ≤ 2 ∧ r.1 ≤ 20
def WF (ll : List (Int32 × Int32 × Int64)) : Prop := ∃ n c D R, WFd n c D R ∧ ll = sll n c D R
/-- the shape of a leaf: what alter can't change -/
def shp (x : Int32 × Int32 × Int64) : Int32 × Int32 × Int64 := (x.1, x.2.1, if x.2.1.toInt = -1 ∨ x.2.1.toInt = 9 then x.2.2 else 0)
theorem wf_nil : WF [] := ⟨0, fun _ => 0, fun _ _ => none, fun _ => none, ⟨by omega, fun k hk => by omega⟩, rfl⟩
theorem lfs_all (F : Nat → List (Int32 × Int32 × Int64)) : ∀ n, lfs F n = lall F n
  | 0 => rfl
  | n + 1 => by
    show lfs F n ++ F n = lall F n ++ F n
    rw [lfs_all F n]
theorem lall_congr {O O2 : Nat → List (Int32 × Int32 × Int64)} : ∀ n, (∀ k, k < n → O k = O2 k) → lall O n = lall O2 n
  | 0, _ => rfl
  | n + 1, h => by
    show lall O n ++ O n = lall O2 n ++ O2 n
    rw [lall_congr n (fun k hk => h k (by omega)), h n (by omega)]
theorem lall_sim {O : Nat → List (Int32 × Int32 × Int64)} : ∀ (n : Nat) (l : List (Int32 × Int32 × Int64)), l.map shp = (lall O n).map shp → ∃ O2, l = lall O2 n ∧ ∀ k, k < n → (O2 k).map shp = (O k).map shp
  | 0, l, h => by
    have h : l.map shp = [] := h
    exact ⟨O, by rw [List.map_eq_nil_iff.mp h]; rfl, fun k hk => by omega⟩
  | n + 1, l, h => by
    have h : l.map shp = (lall O n ++ O n).map shp := h
    rw [List.map_append] at h
    obtain ⟨a, b, e, ha, hb⟩ := List.map_eq_append_iff.mp h
    obtain ⟨O2, e2, h2⟩ := lall_sim n a ha
    refine ⟨fun k => if k = n then b else O2 k, ?_, fun k hk => ?_⟩
    · show l = lall (fun k => if k = n then b else O2 k) n ++ (if n = n then b else O2 n)
      rw [if_pos rfl, e, e2, lall_congr (O := fun k => if k = n then b else O2 k) (O2 := O2) n (fun k hk => if_neg (by omega))]
    · by_cases e3 : k = n
      · subst e3
        show (if k = k then b else O2 k).map shp = _
        rw [if_pos rfl]
        exact hb
      · show (if k = n then b else O2 k).map shp = _
        rw [if_neg e3]
        exact h2 k (by omega)
theorem shp_keep {x y : Int32 × Int32 × Int64} (h : shp x = shp y) (hy : y.2.1.toInt = -1 ∨ y.2.1.toInt = 9) : x = y := by
  obtain ⟨x1, x2, x3⟩ := x
  obtain ⟨y1, y2, y3⟩ := y
  unfold shp at h
  simp only [Prod.mk.injEq] at h
  obtain ⟨h1, h2, h3⟩ := h
  subst h1
  subst h2
  rw [if_pos hy, if_pos hy] at h3
  rw [h3]
theorem shp_two {x y : Int32 × Int32 × Int64} (h : shp x = shp y) : x = (y.1, y.2.1, x.2.2) := by
  obtain ⟨x1, x2, x3⟩ := x
  obtain ⟨y1, y2, y3⟩ := y
  unfold shp at h
  simp only [Prod.mk.injEq] at h
  obtain ⟨h1, h2, h3⟩ := h
  subst h1
  subst h2
  rfl
theorem gff_sim {D : Nat → Option Int64} {R : Option (Nat × (Nat → Int64))} {k : Int32} {j : Nat} {l : List (Int32 × Int32 × Int64)} (h : l.map shp = (gff D R k j).map shp) : ∃ (d : Option Int64) (r : Option (Nat × (Nat → Int64))), l = gff (fun _ => d) r k j ∧ (d = none ↔ D j = none) ∧ (∀ q, r = some q → ∃ q2, R = some q2 ∧ q.1 = q2.1) := by
  unfold gff at h ⊢
  by_cases h9 : j = 9
  · simp only [if_pos h9] at h ⊢
    cases R with
    | none =>
      have h : l.map shp = [] := h
      exact ⟨D j, none, by rw [List.map_eq_nil_iff.mp h], Iff.rfl, fun q hq => by cases hq⟩
    | some r =>
      have h : l.map shp = shp (k, 9, (Int32.ofNat r.1).toInt64) :: ((List.range r.1).map (fun i => (k, 100 + Int32.ofNat i, r.2 i))).map shp := h
      cases l with
      | nil => cases h
      | cons y t =>
        simp only [List.map_cons, List.cons.injEq] at h
        obtain ⟨hy, ht⟩ := h
        have ey := shp_keep hy (Or.inr (show Int32.toInt 9 = 9 by decide))
        have hlen : t.length = r.1 := by
          have := congrArg List.length ht
          simpa using this
        refine ⟨D j, some (r.1, fun i => (t.getD i (0, 0, 0)).2.2), ?_, Iff.rfl, fun q hq => by cases hq; exact ⟨r, rfl, rfl⟩⟩
        show y :: t = (k, 9, (Int32.ofNat r.1).toInt64) :: (List.range r.1).map (fun i => (k, 100 + Int32.ofNat i, (t.getD i (0, 0, 0)).2.2))
        rw [ey]
        congr 1
        apply List.ext_getElem
        · simp [hlen]
        · intro i h1 h2
          have hi : i < r.1 := by omega
          have e1 : (t.map shp)[i]'(by simp; exact h1) = shp (k, 100 + Int32.ofNat i, r.2 i) := by
            simp only [ht]
            simp
          rw [List.getElem_map] at e1
          have e2 := shp_two e1
          simp only [List.getElem_map, List.getElem_range]
          rw [List.getD_eq_getElem?_getD, List.getElem?_eq_getElem h1]
          exact e2
  · simp only [if_neg h9] at h ⊢
    cases e : D j with
    | none =>
      rw [e] at h
      have h : l.map shp = [] := h
      exact ⟨none, none, by rw [List.map_eq_nil_iff.mp h], Iff.rfl, fun q hq => by cases hq⟩
    | some v =>
      rw [e] at h
      have h : l.map shp = [shp (k, Int32.ofNat j, v)] := h
      cases l with
      | nil => cases h
      | cons y t =>
        simp only [List.map_cons, List.cons.injEq, List.map_eq_nil_iff] at h
        obtain ⟨hy, ht⟩ := h
        subst ht
        exact ⟨some y.2.2, none, by
          show [y] = [(k, Int32.ofNat j, y.2.2)]
          rw [← shp_two hy], by simp, fun q hq => by cases hq⟩
theorem gff_at {D : Nat → Option Int64} {R : Option (Nat × (Nat → Int64))} {k : Int32} {j : Nat} {d : Option Int64} {r : Option (Nat × (Nat → Int64))} (h1 : ¬ j = 9 → D j = d) (h2 : j = 9 → R = r) : gff (fun _ => d) r k j = gff D R k j := by
  unfold gff
  by_cases h9 : j = 9
  · rw [if_pos h9, if_pos h9, h2 h9]
  · rw [if_neg h9, if_neg h9, h1 h9]
theorem lob_all (c : Int32) (F : Nat → List (Int32 × Int32 × Int64)) (k : Int32) : lob c F k = (k, -1, c.toInt64) :: lall F 17 := by
  unfold lob
  rw [lfs_all]
theorem sbl_sim {c : Int32} {D : Nat → Option Int64} {R : Option (Nat × (Nat → Int64))} {k : Int32} {l : List (Int32 × Int32 × Int64)} (h3 : l.map shp = (lob c (gff D R k) k).map shp) : ∃ (D2 : Nat → Option Int64) (R2 : Option (Nat × (Nat → Int64))), l = lob c (gff D2 R2 k) k ∧ (∀ j, j < 17 → ¬ D2 j = none → ¬ D j = none) ∧ ∀ q, R2 = some q → ∃ q2, R = some q2 ∧ q.1 = q2.1 := by
  rw [lob_all, List.map_cons] at h3
  cases l with
  | nil => cases h3
  | cons y t =>
    rw [List.map_cons, List.cons.injEq] at h3
    obtain ⟨hy, ht⟩ := h3
    have ey := shp_keep hy (Or.inl (show Int32.toInt (-1) = -1 by decide))
    obtain ⟨F2, eF, hF⟩ := lall_sim 17 t ht
    have k2 : ∀ j, ∃ (d : Option Int64), ∃ (r : Option (Nat × (Nat → Int64))), j < 17 → F2 j = gff (fun _ => d) r k j ∧ (d = none ↔ D j = none) ∧ (∀ q, r = some q → ∃ q2, R = some q2 ∧ q.1 = q2.1) := fun j => by
      by_cases hj : j < 17
      · obtain ⟨d, r, h5⟩ := gff_sim (hF j hj)
        exact ⟨d, r, fun _ => h5⟩
      · exact ⟨none, none, fun q => absurd q hj⟩
    obtain ⟨D2, k3⟩ := Classical.axiomOfChoice k2
    obtain ⟨R2, k4⟩ := Classical.axiomOfChoice k3
    refine ⟨D2, R2 9, ?_, fun j hj hn hd => hn ((k4 j hj).2.1.mpr hd), fun q hq => (k4 9 (by omega)).2.2 q hq⟩
    rw [ey, eF, lob_all]
    refine congrArg (fun q => (k, (-1 : Int32), c.toInt64) :: q) (lall_congr 17 (fun j hj => ?_))
    rw [(k4 j hj).1]
    exact gff_at (fun _ => rfl) (fun h9 => by rw [h9])
theorem wf_sim {n : Nat} {c : Nat → Int32} {D : Nat → Nat → Option Int64} {R : Nat → Option (Nat × (Nat → Int64))} {l : List (Int32 × Int32 × Int64)} (hw : WFd n c D R) (h : l.map shp = (sll n c D R).map shp) : WF l := by
  obtain ⟨O2, e, h2⟩ := lall_sim n l h
  have key : ∀ k, ∃ (D2 : Nat → Option Int64), ∃ (R2 : Option (Nat × (Nat → Int64))), k < n → O2 k = lob (c k) (gff D2 R2 (Int32.ofNat k)) (Int32.ofNat k) ∧ (∀ j, j < 17 → ¬ D2 j = none → ¬ D k j = none) ∧ ∀ q, R2 = some q → ∃ q2, R k = some q2 ∧ q.1 = q2.1 := fun k => by
    by_cases hk : k < n
    · obtain ⟨D2, R2, h3⟩ := sbl_sim (h2 k hk)
      exact ⟨D2, R2, fun _ => h3⟩
    · exact ⟨fun _ => none, none, fun q => absurd q hk⟩
  obtain ⟨D2, k3⟩ := Classical.axiomOfChoice key
  obtain ⟨R2, k4⟩ := Classical.axiomOfChoice k3
  refine ⟨n, c, D2, R2, ⟨hw.1, fun k hk => ?_⟩, ?_⟩
  · obtain ⟨w1, w2, w3⟩ := hw.2 k hk
    obtain ⟨-, a2, a3⟩ := k4 k hk
    refine ⟨w1, fun j hj hn h9 => w2 j hj (a2 j hj hn) h9, fun r hr => ?_⟩
    obtain ⟨q2, b1, b2⟩ := a3 r hr
    rw [b2]
    exact w3 q2 b1
  · rw [e]
    exact lall_congr n (fun k hk => (k4 k hk).1)
theorem wf_alter {ll : List (Int32 × Int32 × Int64)} {k : Nat} {a b : Int32} {c v : Int64} (hw : WF ll) (hk : ll[k]? = some (a, b, c)) (h1 : ¬ b.toInt = -1) (h9 : ¬ b.toInt = 9) : WF (ll.set k (a, b, v)) := by
  obtain ⟨n, cc, D, R, h, e⟩ := hw
  refine wf_sim h ?_
  rw [← e, List.map_set]
  have e2 : shp (a, b, v) = shp (a, b, c) := by
    have hb : ¬ (b.toInt = -1 ∨ b.toInt = 9) := by omega
    show (a, b, if b.toInt = -1 ∨ b.toInt = 9 then v else 0) = (a, b, if b.toInt = -1 ∨ b.toInt = 9 then c else 0)
    rw [if_neg hb, if_neg hb]
  rw [e2]
  apply List.ext_getElem?
  intro i
  by_cases ei : k = i
  · subst ei
    have hl := (List.getElem?_eq_some_iff.mp hk).1
    rw [List.getElem?_set_self (by simpa using hl), List.getElem?_map, hk]
    rfl
  · rw [List.getElem?_set_ne ei]


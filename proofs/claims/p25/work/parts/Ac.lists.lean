-- THE LEAVES AS BUILT: what is told of an object, what its maker is told
section BUILT
variable {O F : Nat → List (Int32 × Int32 × Int64)} {n : Nat} {x : Int32 × Int32 × Int64} {D : Nat → Option Int64} {R : Option (Nat × (Nat → Int64))} {kk o d : Int32} {j : Nat}
theorem mem_lall : ∀ {n : Nat}, x ∈ lall O n → ∃ k, k < n ∧ x ∈ O k
  | 0, h => absurd h List.not_mem_nil
  | n + 1, h => by
    have h : x ∈ lall O n ++ O n := h
    rcases List.mem_append.mp h with h | h
    · obtain ⟨k, hk, hx⟩ := mem_lall h
      exact ⟨k, by omega, hx⟩
    · exact ⟨n, by omega, h⟩
theorem ofN {k : Nat} (h : k < 2147483648) : (Int32.ofNat k).toInt = (k : Int) := oN_toInt h
theorem clN {k : Nat} (h : k < 2147483648) : Int32.toNatClampNeg (Int32.ofNat k) = k := by
  have h1 := ofN h
  show (Int32.ofNat k).toInt.toNat = k
  omega
theorem add100 {i : Nat} (h : i < 1000) : (100 + Int32.ofNat i).toInt = 100 + (i : Int) := by
  have h1 := ofN (k := i) (by omega)
  have h2 : Int32.toInt 100 = 100 := by decide
  rw [add_toInt (x := 100) (y := Int32.ofNat i) rfl (by omega) (by omega), h1, h2]
theorem mem_gff (h : x ∈ gff D R kk j) : x.1 = kk ∧ ((¬ j = 9 ∧ x.2.1 = Int32.ofNat j ∧ D j = some x.2.2) ∨ (j = 9 ∧ ∃ r, R = some r ∧ ((x.2.1 = 9 ∧ x.2.2 = (Int32.ofNat r.1).toInt64) ∨ ∃ i, i < r.1 ∧ x.2.1 = 100 + Int32.ofNat i ∧ x.2.2 = r.2 i))) := by
  unfold gff at h
  by_cases h9 : j = 9
  · rw [if_pos h9] at h
    cases R with
    | none => exact absurd h List.not_mem_nil
    | some r =>
      rcases List.mem_cons.mp h with e | h
      · rw [e]
        exact ⟨rfl, Or.inr ⟨h9, r, rfl, Or.inl ⟨rfl, rfl⟩⟩⟩
      · obtain ⟨i, hi, e⟩ := List.mem_map.mp h
        rw [← e]
        exact ⟨rfl, Or.inr ⟨h9, r, rfl, Or.inr ⟨i, List.mem_range.mp hi, rfl, rfl⟩⟩⟩
  · rw [if_neg h9] at h
    cases e : D j with
    | none => rw [e] at h; exact absurd h List.not_mem_nil
    | some v =>
      rw [e] at h
      have h2 := List.mem_singleton.mp h
      rw [h2]
      exact ⟨rfl, Or.inl ⟨h9, rfl, rfl⟩⟩
/-- the fields of the leaves of field j -/
theorem fld_gff (hj : j < 17) (hr : ∀ r, R = some r → r.1 ≤ 20) (h : x ∈ gff D R kk j) : (¬ j = 9 ∧ x.2.1.toInt = (j : Int)) ∨ (j = 9 ∧ (x.2.1.toInt = 9 ∨ (100 ≤ x.2.1.toInt ∧ x.2.1.toInt < 120))) := by
  obtain ⟨-, h2⟩ := mem_gff h
  rcases h2 with ⟨h9, e, -⟩ | ⟨h9, r, er, h3⟩
  · exact Or.inl ⟨h9, by rw [e]; exact ofN (by omega)⟩
  · have := hr r er
    rcases h3 with ⟨e, -⟩ | ⟨i, hi, e, -⟩
    · exact Or.inr ⟨h9, Or.inl (by rw [e]; decide)⟩
    · refine Or.inr ⟨h9, Or.inr ?_⟩
      rw [e, add100 (by omega)]
      omega
-- told
theorem tol_noR {a b : List (Int32 × Int32 × Int64)} (hb : ∀ x ∈ b, ¬ (x.1.toInt = o.toInt ∧ x.2.1.toInt = d.toInt)) : tol (a ++ b) o d = tol a o d := by
  induction a with
  | nil =>
    show tol b o d = 0
    induction b with
    | nil => rfl
    | cons y b ih =>
      show (if _ then _ else _) = _
      rw [if_neg (hb y List.mem_cons_self)]
      exact ih (fun x hx => hb x (List.mem_cons_of_mem _ hx))
  | cons y a ih =>
    show (if _ then _ else tol (a ++ b) o d) = (if _ then _ else tol a o d)
    rw [ih]
theorem tol_noL {a b : List (Int32 × Int32 × Int64)} (ha : ∀ x ∈ a, ¬ (x.1.toInt = o.toInt ∧ x.2.1.toInt = d.toInt)) : tol (a ++ b) o d = tol b o d := by
  induction a with
  | nil => rfl
  | cons y a ih =>
    show (if _ then _ else tol (a ++ b) o d) = _
    rw [if_neg (ha y List.mem_cons_self)]
    exact ih (fun x hx => ha x (List.mem_cons_of_mem _ hx))
theorem tol_lall {k : Nat} : ∀ {n : Nat}, k < n → (∀ i, i < n → ¬ i = k → ∀ x ∈ O i, ¬ (x.1.toInt = o.toInt ∧ x.2.1.toInt = d.toInt)) → tol (lall O n) o d = tol (O k) o d
  | 0, h, _ => absurd h (Nat.not_lt_zero _)
  | n + 1, h, hO => by
    show tol (lall O n ++ O n) o d = _
    by_cases e : k = n
    · subst e
      refine tol_noL (fun x hx => ?_)
      obtain ⟨i, hi, hx⟩ := mem_lall hx
      exact hO i (by omega) (by omega) x hx
    · rw [tol_noR (fun x hx => hO n (by omega) (fun q => e q.symm) x hx)]
      exact tol_lall (by omega) (fun i hi => hO i (by omega))
-- what makers are told
def hd1 (b : List (Int32 × Int32 × Int64)) : Prop := b = [] ∨ ∃ x t, b = x :: t ∧ x.2.1.toInt = -1
theorem tm_app {a b : List (Int32 × Int32 × Int64)} (hb : hd1 b) : tm (a ++ b) = tm a := by
  induction a with
  | nil =>
    rcases hb with rfl | ⟨x, t, rfl, hx⟩
    · rfl
    · show (if _ then _ else _) = _
      rw [if_pos hx]
      rfl
  | cons y a ih =>
    show (if _ then _ else if _ then _ else tm (a ++ b)) = (if _ then _ else if _ then _ else tm a)
    rw [ih]
theorem mkl_app {a b : List (Int32 × Int32 × Int64)} (hb : hd1 b) : mkl (a ++ b) = mkl a ++ mkl b := by
  induction a with
  | nil => rfl
  | cons y a ih =>
    show (if _ then (_, tm (a ++ b)) :: mkl (a ++ b) else mkl (a ++ b)) = (if _ then (_, tm a) :: mkl a else mkl a) ++ mkl b
    rw [ih, tm_app hb]
    split <;> rfl
theorem tm_skip {a b : List (Int32 × Int32 × Int64)} (ha : ∀ x ∈ a, ¬ x.2.1.toInt = -1 ∧ ¬ x.2.1.toInt = 13 ∧ ¬ x.2.1.toInt = 16) : tm (a ++ b) = tm b := by
  induction a with
  | nil => rfl
  | cons y a ih =>
    have h := ha y List.mem_cons_self
    show (if _ then _ else if _ then _ else tm (a ++ b)) = _
    rw [if_neg h.1, if_neg (by omega)]
    exact ih (fun x hx => ha x (List.mem_cons_of_mem _ hx))
theorem mkl_none {a : List (Int32 × Int32 × Int64)} (ha : ∀ x ∈ a, ¬ x.2.1.toInt = -1) : mkl a = [] := by
  induction a with
  | nil => rfl
  | cons y a ih =>
    show (if _ then _ else mkl a) = _
    rw [if_neg (ha y List.mem_cons_self)]
    exact ih (fun x hx => ha x (List.mem_cons_of_mem _ hx))
/-- what the maker of an object with the fields D is told -/
def tmv (D : Nat → Option Int64) : Int32 := match D 13 with
  | some v => v.toInt32
  | none => (match D 16 with
    | some v => v.toInt32
    | none => 0)
theorem as13 (v : Int64) : (ks_as 13 v).toInt32 = v.toInt32 := by
  rw [← val_13 (w := 13) (v := v) (by decide)]
  show (v.toInt32.toInt64).toInt32 = v.toInt32
  simp
theorem as16 (v : Int64) : (ks_as 16 v).toInt32 = v.toInt32 := by
  rw [← val_16 (w := 16) (v := v) (by decide)]
  show (v.toInt32.toInt64).toInt32 = v.toInt32
  simp
theorem tm_fields (hr : ∀ r, R = some r → r.1 ≤ 20) : tm (lall (gff D R kk) 17) = tmv D := by
  have e1 : lall (gff D R kk) 17 = lall (gff D R kk) 13 ++ (gff D R kk 13 ++ (gff D R kk 14 ++ (gff D R kk 15 ++ gff D R kk 16))) := by
    show (((lall (gff D R kk) 13 ++ gff D R kk 13) ++ gff D R kk 14) ++ gff D R kk 15) ++ gff D R kk 16 = _
    simp only [List.append_assoc]
  have hsk : ∀ j, j < 17 → ¬ j = 13 → ¬ j = 16 → ∀ x ∈ gff D R kk j, ¬ x.2.1.toInt = -1 ∧ ¬ x.2.1.toInt = 13 ∧ ¬ x.2.1.toInt = 16 := fun j hj n1 n2 x hx => by
    rcases fld_gff hj hr hx with ⟨-, e⟩ | ⟨-, e⟩ <;> omega
  rw [e1, tm_skip (fun x hx => by
    obtain ⟨j, hj, hx⟩ := mem_lall hx
    exact hsk j (by omega) (by omega) (by omega) x hx)]
  have e13 : Int32.ofNat 13 = 13 := by decide
  have e16 : Int32.ofNat 16 = 16 := by decide
  have g13 : gff D R kk 13 = (match D 13 with
    | none => []
    | some v => [(kk, Int32.ofNat 13, v)]) := gff_v (by decide)
  have g16 : gff D R kk 16 = (match D 16 with
    | none => []
    | some v => [(kk, Int32.ofNat 16, v)]) := gff_v (by decide)
  unfold tmv
  cases d13 : D 13 with
  | some v =>
    rw [d13] at g13
    rw [g13]
    show (if (Int32.ofNat 13).toInt = -1 then _ else if _ then (ks_as (Int32.ofNat 13) v).toInt32 else _) = v.toInt32
    rw [e13, if_neg (by decide), if_pos (show Int32.toInt 13 = 13 ∨ Int32.toInt 13 = 16 by decide), as13]
  | none =>
    rw [d13] at g13
    rw [g13]
    show tm ([] ++ (gff D R kk 14 ++ (gff D R kk 15 ++ gff D R kk 16))) = _
    rw [List.nil_append, tm_skip (hsk 14 (by omega) (by omega) (by omega)), tm_skip (hsk 15 (by omega) (by omega) (by omega)), g16]
    cases D 16 with
    | some v =>
      show (if (Int32.ofNat 16).toInt = -1 then _ else if _ then (ks_as (Int32.ofNat 16) v).toInt32 else _) = v.toInt32
      rw [e16, if_neg (by decide), if_pos (show Int32.toInt 16 = 13 ∨ Int32.toInt 16 = 16 by decide), as16]
    | none => rfl
end BUILT
section BUILT2
variable {n : Nat} {c : Nat → Int32} {D : Nat → Nat → Option Int64} {R : Nat → Option (Nat × (Nat → Int64))}
theorem sbl_cons (k : Nat) : sbl c D R k = (Int32.ofNat k, -1, (c k).toInt64) :: lall (gff (D k) (R k) (Int32.ofNat k)) 17 := lob_all _ _ _
theorem sbl_fst {k : Nat} {x : Int32 × Int32 × Int64} (h : x ∈ sbl c D R k) : x.1 = Int32.ofNat k := by
  rw [sbl_cons] at h
  rcases List.mem_cons.mp h with e | h
  · rw [e]
  · obtain ⟨j, hj, hx⟩ := mem_lall h
    exact (mem_gff hx).1
theorem sbl_hd1 (k : Nat) : hd1 (sbl c D R k) := Or.inr ⟨_, _, sbl_cons k, show Int32.toInt (-1) = -1 by decide⟩
theorem sbl_fld (hw : WFd n c D R) {k : Nat} (hk : k < n) {x : Int32 × Int32 × Int64} (h : x ∈ lall (gff (D k) (R k) (Int32.ofNat k)) 17) : ¬ x.2.1.toInt = -1 := by
  obtain ⟨j, hj, hx⟩ := mem_lall h
  rcases fld_gff hj (fun r hr => ((hw.2 k hk).2.2 r hr).2) hx with ⟨-, e⟩ | ⟨-, e⟩ <;> omega
theorem mkl_sll (hw : WFd n c D R) : ∀ m, m ≤ n → mkl (lall (sbl c D R) m) = (List.range m).map (fun k => (c k, tmv (D k)))
  | 0, _ => rfl
  | m + 1, h => by
    show mkl (lall (sbl c D R) m ++ sbl c D R m) = _
    have e1 : mkl (sbl c D R m) = [(c m, tmv (D m))] := by
      rw [sbl_cons]
      show (if Int32.toInt (-1) = -1 then ((c m).toInt64.toInt32, tm _) :: mkl _ else mkl _) = _
      rw [if_pos (by decide), mkl_none (fun x hx => sbl_fld hw (by omega) hx), tm_fields (fun r hr => ((hw.2 m (by omega)).2.2 r hr).2)]
      simp
    rw [mkl_app (sbl_hd1 m), mkl_sll hw m (by omega), e1, List.range_succ, List.map_append]
    rfl
theorem mkl_at (hw : WFd n c D R) : (mkl (sll n c D R)).length = n ∧ ∀ k, k < n → (mkl (sll n c D R)).getD k (0, 0) = (c k, tmv (D k)) := by
  have e := mkl_sll hw n (Nat.le_refl _)
  unfold sll
  rw [e]
  refine ⟨by simp, fun k hk => ?_⟩
  rw [List.getD_eq_getElem?_getD, List.getElem?_map, List.getElem?_range hk]
  rfl
theorem tol_sll (hw : WFd n c D R) {k : Nat} (hk : k < n) (d : Int32) : tol (sll n c D R) (Int32.ofNat k) d = tol (sbl c D R k) (Int32.ofNat k) d := by
  have h24 := hw.1
  refine tol_lall hk (fun i hi hne x hx hm => ?_)
  have e := sbl_fst hx
  rw [e, ofN (by omega), ofN (by omega)] at hm
  omega
theorem tol_cls (hw : WFd n c D R) {k : Nat} (hk : k < n) : tol (sll n c D R) (Int32.ofNat k) (-1) = (c k).toInt64 := by
  rw [tol_sll hw hk, sbl_cons]
  exact if_pos ⟨rfl, rfl⟩
theorem tol_fld (hw : WFd n c D R) {k : Nat} (hk : k < n) {j : Nat} (hj : j < 17) (h9 : ¬ j = 9) : tol (sll n c D R) (Int32.ofNat k) (Int32.ofNat j) = (D k j).getD 0 := by
  have hjn := ofN (k := j) (by omega)
  have km1 : Int32.toInt (-1) = -1 := by decide
  rw [tol_sll hw hk, sbl_cons]
  have e1 : tol ((Int32.ofNat k, -1, (c k).toInt64) :: lall (gff (D k) (R k) (Int32.ofNat k)) 17) (Int32.ofNat k) (Int32.ofNat j) = tol (lall (gff (D k) (R k) (Int32.ofNat k)) 17) (Int32.ofNat k) (Int32.ofNat j) := if_neg (fun q => by
    have q2 : Int32.toInt (-1) = (Int32.ofNat j).toInt := q.2
    omega)
  rw [e1, tol_lall hj (fun i hi hne x hx hm => by
    rcases fld_gff hi (fun r hr => ((hw.2 k hk).2.2 r hr).2) hx with ⟨-, e⟩ | ⟨-, e⟩ <;> omega), gff_v h9]
  cases D k j with
  | none => rfl
  | some v => exact if_pos ⟨rfl, rfl⟩
theorem csT_sll (hw : WFd n c D R) {k : Nat} (hk : k < n) : csT (sll n c D R) k = c k := by
  unfold csT
  rw [tol_cls hw hk]
  simp
theorem D_no (hw : WFd n c D R) {k j : Nat} (hk : k < n) (hj : j < 17) (h9 : ¬ j = 9) (hh : ¬ hs (c k).toInt (j : Int) = true) : D k j = none := Classical.byContradiction (fun q => hh ((hw.2 k hk).2.1 j hj q h9))
theorem tnT_sll (hw : WFd n c D R) {k : Nat} (hk : k < n) : tnT (sll n c D R) k = tmv (D k) := by
  have hc := (hw.2 k hk).1
  unfold tnT tmv
  rw [csT_sll hw hk]
  by_cases h2 : (c k).toInt = 2
  · rw [if_pos h2, show (13 : Int32) = Int32.ofNat 13 from by decide, tol_fld hw hk (by omega) (by omega)]
    have h16 : D k 16 = none := D_no hw hk (by omega) (by omega) (mt hs_iff.mp (by omega))
    rw [h16]
    cases D k 13 with
    | none => decide
    | some v => rfl
  · rw [if_neg h2, show (16 : Int32) = Int32.ofNat 16 from by decide, tol_fld hw hk (by omega) (by omega)]
    have h13 : D k 13 = none := D_no hw hk (by omega) (by omega) (mt hs_iff.mp (by omega))
    rw [h13]
    cases D k 16 with
    | none => decide
    | some v => rfl
theorem bad_sll (hw : WFd n c D R) {k : Nat} (hk : k < n) : badT (sll n c D R) k ↔ ¬ tak (c k, tmv (D k)) := by
  unfold badT tak
  rw [tol_cls hw hk, Int32.toInt_toInt64]
  show _ ↔ ¬ (¬ (c k).toInt = 2 ∨ (0 ≤ (tmv (D k)).toInt ∧ (tmv (D k)).toInt ≤ 1000))
  by_cases h2 : (c k).toInt = 2
  · have e : (tol (sll n c D R) (Int32.ofNat k) 13).toInt32 = tmv (D k) := by
      rw [← tnT_sll hw hk]
      unfold tnT
      rw [csT_sll hw hk, if_pos h2]
    rw [e]
    omega
  · omega
theorem fit_sll (hw : WFd n c D R) : FIT (sll n c D R) n := by
  have h24 := hw.1
  refine ⟨h24, fun i x hx => ?_, fun x hx => ?_⟩
  · obtain ⟨k, hk, hx⟩ := mem_lall (List.mem_of_getElem? hx)
    refine ⟨by rw [sbl_fst hx, ofN (by omega)]; omega, fun h9 => ?_⟩
    rw [sbl_cons] at hx
    rcases List.mem_cons.mp hx with e | hx
    · rw [e] at h9
      exact absurd h9 (show ¬ Int32.toInt (-1) = 9 by decide)
    · obtain ⟨j, hj, hx⟩ := mem_lall hx
      have hr : ∀ r, R k = some r → r.1 ≤ 20 := fun r hr => ((hw.2 k hk).2.2 r hr).2
      rcases fld_gff hj hr hx with ⟨n9, e⟩ | ⟨-, e⟩
      · omega
      · obtain ⟨-, h3⟩ := mem_gff hx
        rcases h3 with ⟨n9, e2, -⟩ | ⟨-, r, er, h3⟩
        · rw [e2, ofN (by omega)] at h9
          omega
        · have := hr r er
          rcases h3 with ⟨-, e2⟩ | ⟨i, hi, e2, -⟩
          · rw [e2, Int32.toInt_toInt64, ofN (by omega)]
            omega
          · rw [e2, add100 (by omega)] at h9
            omega
  · cases n with
    | zero =>
      have hx : ([] : List (Int32 × Int32 × Int64))[0]? = some x := hx
      cases hx
    | succ m =>
      have hx : (lall (sbl c D R) m ++ sbl c D R m)[(lall (sbl c D R) m ++ sbl c D R m).length - 1]? = some x := hx
      have hl : 0 < (sbl c D R m).length := by rw [sbl_cons]; simp
      rw [List.length_append, List.getElem?_append_right (by omega)] at hx
      rw [sbl_fst (List.mem_of_getElem? hx), ofN (by omega)]
      omega
theorem sll_nil (hw : WFd n c D R) : sll n c D R = [] ↔ n = 0 := by
  cases n with
  | zero => exact ⟨fun _ => rfl, fun _ => rfl⟩
  | succ m =>
    refine ⟨fun h => ?_, fun h => by omega⟩
    have h : lall (sbl c D R) m ++ sbl c D R m = [] := h
    have h2 := (List.append_eq_nil_iff.mp h).2
    rw [sbl_cons] at h2
    cases h2
end BUILT2


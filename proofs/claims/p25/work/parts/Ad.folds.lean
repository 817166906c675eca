-- FOLDS over the leaves as built: object by object, field by field
section FOLDS
theorem fold_blk {α : Type} {st : (Int32 × Int32 × Int64) → (Nat → α) → Nat → α} {loc : (Int32 × Int32 × Int64) → α → α} (hst : ∀ x S, st x S = va_up S (Int32.toNatClampNeg x.1) (loc x (S (Int32.toNatClampNeg x.1)))) {k : Nat} : ∀ (B : List (Int32 × Int32 × Int64)) (S : Nat → α), (∀ x ∈ B, Int32.toNatClampNeg x.1 = k) → B.foldl (fun s x => st x s) S = va_up S k (B.foldl (fun s x => loc x s) (S k))
  | [], S, _ => (va_up_id S k).symm
  | x :: B, S, h => by
    have hx := h x List.mem_cons_self
    show B.foldl (fun s x => st x s) (st x S) = va_up S k (B.foldl (fun s x => loc x s) (loc x (S k)))
    rw [fold_blk hst B (st x S) (fun y hy => h y (List.mem_cons_of_mem _ hy)), hst x S, hx, va_up_self]
    funext i
    by_cases e : i = k
    · rw [e, va_up_self, va_up_self]
    · rw [va_up_ne _ _ e, va_up_ne _ _ e, va_up_ne _ _ e]
theorem fold_lall {α : Type} {st : (Int32 × Int32 × Int64) → (Nat → α) → Nat → α} {loc : (Int32 × Int32 × Int64) → α → α} (hst : ∀ x S, st x S = va_up S (Int32.toNatClampNeg x.1) (loc x (S (Int32.toNatClampNeg x.1)))) {O : Nat → List (Int32 × Int32 × Int64)} (S : Nat → α) : ∀ (n : Nat), (∀ k, k < n → ∀ x ∈ O k, Int32.toNatClampNeg x.1 = k) → ∀ k, (k < n → (lall O n).foldl (fun s x => st x s) S k = (O k).foldl (fun s x => loc x s) (S k)) ∧ (¬ k < n → (lall O n).foldl (fun s x => st x s) S k = S k)
  | 0, _, k => ⟨fun h => absurd h (Nat.not_lt_zero _), fun _ => rfl⟩
  | n + 1, h, k => by
    have ih := fold_lall hst S n (fun i hi => h i (by omega))
    have e : (lall O (n + 1)).foldl (fun s x => st x s) S = va_up ((lall O n).foldl (fun s x => st x s) S) n ((O n).foldl (fun s x => loc x s) ((lall O n).foldl (fun s x => st x s) S n)) := by
      show (lall O n ++ O n).foldl (fun s x => st x s) S = _
      rw [List.foldl_append]
      exact fold_blk hst (O n) _ (h n (by omega))
    rw [e]
    refine ⟨fun hk => ?_, fun hk => ?_⟩
    · by_cases ek : k = n
      · subst ek
        rw [va_up_self, (ih k).2 (by omega)]
      · rw [va_up_ne _ _ ek]
        exact (ih k).1 (by omega)
    · rw [va_up_ne _ _ (by omega)]
      exact (ih k).2 (by omega)
/-- values, one object: p says which fields are written, vf what -/
def lcV (p : Int → Bool) (vf : Int32 → Int64 → Int64) (x : Int32 × Int32 × Int64) (v : Nat → Int64) : Nat → Int64 := if p x.2.1.toInt = true then vp_updL v (Int32.toNatClampNeg x.2.1) (vf x.2.1 x.2.2) else v
def lcN (x : Int32 × Int32 × Int64) (N : Int → Option Nat) : Int → Option Nat := if x.2.1.toInt = 8 ∨ x.2.1.toInt = 11 ∨ x.2.1.toInt = 15 then (fun w => if w = x.2.1.toInt then some x.2.2.toInt.toNat else N w) else N
def lcR (x : Int32 × Int32 × Int64) (R : Option (Nat × (Nat → Int32))) : Option (Nat × (Nat → Int32)) := if x.2.1.toInt = 9 then (if 0 ≤ x.2.2.toInt ∧ x.2.2.toInt ≤ 20 then some (x.2.2.toInt.toNat, fun _ => 0) else none) else if 100 ≤ x.2.1.toInt then R.map (fun r => if x.2.1.toInt - 100 < (r.1 : Int) then (r.1, upd r.2 (x.2.1.toInt - 100).toNat x.2.2.toInt32) else r) else R
def lcZ (x : Int32 × Int32 × Int64) (Z : Int32) : Int32 := if x.2.1.toInt = 9 then x.2.2.toInt32 else Z
def lcW (x : Int32 × Int32 × Int64) (W : Nat → Int32) : Nat → Int32 := if 100 ≤ x.2.1.toInt then upd W (x.2.1.toInt - 100).toNat x.2.2.toInt32 else W
def pcl (w : Int) : Bool := decide ((0 ≤ w ∧ w < 17 ∧ ¬ w = 8 ∧ ¬ w = 9 ∧ ¬ w = 11 ∧ ¬ w = 15) ∧ ¬ (w = 13 ∨ w = 16))
def prf (w : Int) : Bool := decide (0 ≤ w ∧ w < 17 ∧ ¬ w = 8 ∧ ¬ w = 9 ∧ ¬ w = 11 ∧ ¬ w = 15)
theorem stV_lc (x : Int32 × Int32 × Int64) (V : Nat → Nat → Int64) : stV x V = va_up V (Int32.toNatClampNeg x.1) (lcV pcl ks_as x (V (Int32.toNatClampNeg x.1))) := by
  unfold stV lcV pcl
  by_cases h : (0 ≤ x.2.1.toInt ∧ x.2.1.toInt < 17 ∧ ¬ x.2.1.toInt = 8 ∧ ¬ x.2.1.toInt = 9 ∧ ¬ x.2.1.toInt = 11 ∧ ¬ x.2.1.toInt = 15) ∧ ¬ (x.2.1.toInt = 13 ∨ x.2.1.toInt = 16)
  · rw [if_pos h, if_pos (decide_eq_true h)]
  · rw [if_neg h, if_neg (fun q => h (of_decide_eq_true q)), va_up_id]
theorem rstV_lc (x : Int32 × Int32 × Int64) (V : Nat → Nat → Int64) : rstV x V = va_up V (Int32.toNatClampNeg x.1) (lcV prf rs_val x (V (Int32.toNatClampNeg x.1))) := by
  unfold rstV lcV prf
  by_cases h : 0 ≤ x.2.1.toInt ∧ x.2.1.toInt < 17 ∧ ¬ x.2.1.toInt = 8 ∧ ¬ x.2.1.toInt = 9 ∧ ¬ x.2.1.toInt = 11 ∧ ¬ x.2.1.toInt = 15
  · rw [if_pos h, if_pos (decide_eq_true h)]
  · rw [if_neg h, if_neg (fun q => h (of_decide_eq_true q)), va_up_id]
theorem stN_lc (x : Int32 × Int32 × Int64) (N : Nat → Int → Option Nat) : stN x N = va_up N (Int32.toNatClampNeg x.1) (lcN x (N (Int32.toNatClampNeg x.1))) := by
  unfold stN lcN
  split
  · rfl
  · rw [va_up_id]
theorem stR_lc (x : Int32 × Int32 × Int64) (R : Nat → Option (Nat × (Nat → Int32))) : stR x R = va_up R (Int32.toNatClampNeg x.1) (lcR x (R (Int32.toNatClampNeg x.1))) := by
  unfold stR lcR
  split
  · rfl
  · split
    · rfl
    · rw [va_up_id]
theorem rstZ_lc (x : Int32 × Int32 × Int64) (Z : Nat → Int32) : rstZ x Z = va_up Z (Int32.toNatClampNeg x.1) (lcZ x (Z (Int32.toNatClampNeg x.1))) := by
  unfold rstZ lcZ
  split
  · rfl
  · rw [va_up_id]
theorem rstW_lc (x : Int32 × Int32 × Int64) (W : Nat → Nat → Int32) : rstW x W = va_up W (Int32.toNatClampNeg x.1) (lcW x (W (Int32.toNatClampNeg x.1))) := by
  unfold rstW lcW
  split
  · rfl
  · rw [va_up_id]
variable {D : Nat → Option Int64} {R : Option (Nat × (Nat → Int64))} {kk : Int32}
/-- a block that a fold passes by -/
theorem fold_id {α : Type} {loc : (Int32 × Int32 × Int64) → α → α} : ∀ (B : List (Int32 × Int32 × Int64)) (s : α), (∀ x ∈ B, ∀ s, loc x s = s) → B.foldl (fun s x => loc x s) s = s
  | [], _, _ => rfl
  | x :: B, s, h => by
    show B.foldl (fun s x => loc x s) (loc x s) = s
    rw [h x List.mem_cons_self s]
    exact fold_id B s (fun y hy => h y (List.mem_cons_of_mem _ hy))
theorem fold_V {p : Int → Bool} {vf : Int32 → Int64 → Int64} (hp : ∀ w, p w = true → 0 ≤ w ∧ w < 17 ∧ ¬ w = 9) (hr : ∀ r, R = some r → r.1 ≤ 20) (v : Nat → Int64) (j : Nat) (hj : j < 17) : ∀ m, m ≤ 17 → (lall (gff D R kk) m).foldl (fun s x => lcV p vf x s) v j = if j < m ∧ p (j : Int) = true then (match D j with
    | none => v j
    | some y => vf (Int32.ofNat j) y) else v j
  | 0, _ => by rw [if_neg (by omega)]; rfl
  | m + 1, hm => by
    have ih := fold_V (vf := vf) hp hr v j hj m (by omega)
    show (lall (gff D R kk) m ++ gff D R kk m).foldl (fun s x => lcV p vf x s) v j = _
    rw [List.foldl_append]
    have hmn := ofN (k := m) (by omega)
    have hmc := clN (k := m) (by omega)
    by_cases hpm : p (m : Int) = true
    · have h9 : ¬ m = 9 := by have := hp _ hpm; omega
      rw [gff_v h9]
      cases hD : D m with
      | none =>
        show (lall (gff D R kk) m).foldl (fun s x => lcV p vf x s) v j = _
        rw [ih]
        by_cases hjm : j = m
        · subst hjm
          rw [if_neg (by omega), if_pos ⟨by omega, hpm⟩, hD]
        · by_cases hc : j < m ∧ p (j : Int) = true
          · rw [if_pos hc, if_pos ⟨by omega, hc.2⟩]
          · rw [if_neg hc, if_neg (fun q => hc ⟨by omega, q.2⟩)]
      | some y =>
        show lcV p vf (kk, Int32.ofNat m, y) ((lall (gff D R kk) m).foldl (fun s x => lcV p vf x s) v) j = _
        unfold lcV
        rw [if_pos (show p (Int32.ofNat m).toInt = true by rw [hmn]; exact hpm)]
        show vp_updL _ (Int32.toNatClampNeg (Int32.ofNat m)) (vf (Int32.ofNat m) y) j = _
        rw [hmc]
        by_cases hjm : j = m
        · subst hjm
          rw [pk_uLs, if_pos ⟨by omega, hpm⟩, hD]
        · rw [pk_uLn hjm]
          have ih2 : (lall (gff D R kk) m).foldl (fun s x => if p x.2.1.toInt = true then vp_updL s (Int32.toNatClampNeg x.2.1) (vf x.2.1 x.2.2) else s) v j = _ := ih
          rw [ih2]
          by_cases hc : j < m ∧ p (j : Int) = true
          · rw [if_pos hc, if_pos ⟨by omega, hc.2⟩]
          · rw [if_neg hc, if_neg (fun q => hc ⟨by omega, q.2⟩)]
    · rw [fold_id (loc := lcV p vf) (gff D R kk m) _ (fun x hx s => if_neg (fun q => by
        rcases fld_gff (by omega) hr hx with ⟨-, e⟩ | ⟨h9, e⟩
        · rw [e] at q; exact hpm q
        · have := hp _ q; omega)), ih]
      by_cases hc : j < m ∧ p (j : Int) = true
      · rw [if_pos hc, if_pos ⟨by omega, hc.2⟩]
      · rw [if_neg hc, if_neg (fun q => hc ⟨by
          have : ¬ j = m := fun e => hpm (by rw [← e]; exact q.2)
          omega, q.2⟩)]
theorem fold_N (hr : ∀ r, R = some r → r.1 ≤ 20) (N : Int → Option Nat) (w : Int) : ∀ m, m ≤ 17 → (lall (gff D R kk) m).foldl (fun s x => lcN x s) N w = if w < (m : Int) ∧ (w = 8 ∨ w = 11 ∨ w = 15) then (match D w.toNat with
    | none => N w
    | some y => some y.toInt.toNat) else N w
  | 0, _ => by rw [if_neg (by omega)]; rfl
  | m + 1, hm => by
    have ih := fold_N hr N w m (by omega)
    show (lall (gff D R kk) m ++ gff D R kk m).foldl (fun s x => lcN x s) N w = _
    rw [List.foldl_append]
    have hmn := ofN (k := m) (by omega)
    by_cases hpm : m = 8 ∨ m = 11 ∨ m = 15
    · have h9 : ¬ m = 9 := by omega
      rw [gff_v h9]
      by_cases hwm : w = (m : Int)
      · have hwt : w.toNat = m := by omega
        rw [if_pos (by omega), hwt]
        cases hD : D m with
        | none =>
          show (lall (gff D R kk) m).foldl (fun s x => lcN x s) N w = _
          rw [ih, if_neg (by omega)]
        | some y =>
          show lcN (kk, Int32.ofNat m, y) ((lall (gff D R kk) m).foldl (fun s x => lcN x s) N) w = _
          unfold lcN
          rw [if_pos (show (Int32.ofNat m).toInt = 8 ∨ (Int32.ofNat m).toInt = 11 ∨ (Int32.ofNat m).toInt = 15 by omega)]
          exact if_pos (show w = (Int32.ofNat m).toInt by omega)
      · have fin : (lall (gff D R kk) m).foldl (fun s x => lcN x s) N w = if w < ((m + 1 : Nat) : Int) ∧ (w = 8 ∨ w = 11 ∨ w = 15) then (match D w.toNat with
            | none => N w
            | some y => some y.toInt.toNat) else N w := by
          rw [ih]
          by_cases hc : w < (m : Int) ∧ (w = 8 ∨ w = 11 ∨ w = 15)
          · rw [if_pos hc, if_pos (by omega)]
          · rw [if_neg hc, if_neg (by omega)]
        rw [← fin]
        cases hD : D m with
        | none => rfl
        | some y =>
          show lcN (kk, Int32.ofNat m, y) ((lall (gff D R kk) m).foldl (fun s x => lcN x s) N) w = _
          have e2 : lcN (kk, Int32.ofNat m, y) ((lall (gff D R kk) m).foldl (fun s x => lcN x s) N) = fun w => if w = (Int32.ofNat m).toInt then some y.toInt.toNat else (lall (gff D R kk) m).foldl (fun s x => lcN x s) N w := if_pos (show (Int32.ofNat m).toInt = 8 ∨ (Int32.ofNat m).toInt = 11 ∨ (Int32.ofNat m).toInt = 15 by omega)
          rw [e2]
          exact if_neg (show ¬ w = (Int32.ofNat m).toInt by omega)
    · rw [fold_id (loc := lcN) (gff D R kk m) _ (fun x hx s => if_neg (fun q => by
        rcases fld_gff (by omega) hr hx with ⟨-, e⟩ | ⟨h9, e⟩ <;> omega)), ih]
      by_cases hc : w < (m : Int) ∧ (w = 8 ∨ w = 11 ∨ w = 15)
      · rw [if_pos hc, if_pos (by omega)]
      · rw [if_neg hc, if_neg (by omega)]
/-- a fold that only the row's block touches -/
theorem fold_9 {α : Type} {loc : (Int32 × Int32 × Int64) → α → α} (hloc : ∀ x s, ¬ x.2.1.toInt = 9 → ¬ 100 ≤ x.2.1.toInt → loc x s = s) (hr : ∀ r, R = some r → r.1 ≤ 20) (s : α) : (lall (gff D R kk) 17).foldl (fun s x => loc x s) s = (gff D R kk 9).foldl (fun s x => loc x s) s := by
  have hid : ∀ j, j < 17 → ¬ j = 9 → ∀ s, (gff D R kk j).foldl (fun s x => loc x s) s = s := fun j hj h9 s => fold_id _ s (fun x hx s => by
    rcases fld_gff hj hr hx with ⟨-, e⟩ | ⟨e, -⟩
    · exact hloc x s (by omega) (by omega)
    · exact absurd e h9)
  have e1 : ∀ m, m ≤ 17 → (lall (gff D R kk) m).foldl (fun s x => loc x s) s = if 9 < m then (gff D R kk 9).foldl (fun s x => loc x s) s else s := fun m => by
    induction m with
    | zero => intro _; rw [if_neg (by omega)]; rfl
    | succ m ih =>
      intro hm
      show (lall (gff D R kk) m ++ gff D R kk m).foldl (fun s x => loc x s) s = _
      rw [List.foldl_append, ih (by omega)]
      by_cases h9 : m = 9
      · subst h9
        rw [if_neg (by omega), if_pos (by omega)]
      · rw [hid m (by omega) h9]
        by_cases hc : 9 < m
        · rw [if_pos hc, if_pos (by omega)]
        · rw [if_neg hc, if_neg (by omega)]
  rw [e1 17 (by omega), if_pos (by omega)]
theorem gff_9 : gff D R kk 9 = (match R with
  | none => []
  | some r => (kk, 9, (Int32.ofNat r.1).toInt64) :: (List.range r.1).map (fun i => (kk, 100 + Int32.ofNat i, r.2 i))) := by
  unfold gff
  rw [if_pos rfl]
  cases R <;> rfl
theorem fold_W {g : Nat → Int64} (W : Nat → Int32) : ∀ m, m ≤ 20 → ∀ t, ((List.range m).map (fun i => (kk, 100 + Int32.ofNat i, g i))).foldl (fun s x => lcW x s) W t = if t < m then (g t).toInt32 else W t
  | 0, _, t => by rw [if_neg (by omega)]; rfl
  | m + 1, hm, t => by
    rw [List.range_succ, List.map_append, List.foldl_append]
    show lcW (kk, 100 + Int32.ofNat m, g m) (((List.range m).map (fun i => (kk, 100 + Int32.ofNat i, g i))).foldl (fun s x => lcW x s) W) t = _
    have h1 := add100 (i := m) (by omega)
    have e : lcW (kk, 100 + Int32.ofNat m, g m) (((List.range m).map (fun i => (kk, 100 + Int32.ofNat i, g i))).foldl (fun s x => lcW x s) W) = upd (((List.range m).map (fun i => (kk, 100 + Int32.ofNat i, g i))).foldl (fun s x => lcW x s) W) m (g m).toInt32 := by
      unfold lcW
      rw [if_pos (show 100 ≤ (100 + Int32.ofNat m).toInt by omega)]
      show upd _ ((100 + Int32.ofNat m).toInt - 100).toNat (g m).toInt32 = _
      rw [show ((100 + Int32.ofNat m).toInt - 100).toNat = m by omega]
    rw [e]
    by_cases ht : t = m
    · rw [ht, pk_us, if_pos (by omega)]
    · rw [pk_un ht, fold_W W m (by omega) t]
      by_cases hc : t < m
      · rw [if_pos hc, if_pos (by omega)]
      · rw [if_neg hc, if_neg (by omega)]
theorem fold_Rp {g : Nat → Int64} {M : Nat} (g0 : Nat → Int32) : ∀ m, m ≤ M → m ≤ 20 → ∃ g2 : Nat → Int32, ((List.range m).map (fun i => (kk, 100 + Int32.ofNat i, g i))).foldl (fun s x => lcR x s) (some (M, g0)) = some (M, g2) ∧ ∀ t, t < m → g2 t = (g t).toInt32
  | 0, _, _ => ⟨g0, rfl, fun t ht => by omega⟩
  | m + 1, hM, hm => by
    obtain ⟨g2, e, h2⟩ := fold_Rp (g := g) (M := M) g0 m (by omega) (by omega)
    have h1 := add100 (i := m) (by omega)
    refine ⟨upd g2 m (g m).toInt32, ?_, fun t ht => ?_⟩
    · rw [List.range_succ, List.map_append, List.foldl_append, e]
      show lcR (kk, 100 + Int32.ofNat m, g m) (some (M, g2)) = _
      unfold lcR
      rw [if_neg (show ¬ (100 + Int32.ofNat m).toInt = 9 by omega), if_pos (show 100 ≤ (100 + Int32.ofNat m).toInt by omega)]
      show some (if (100 + Int32.ofNat m).toInt - 100 < (M : Int) then (M, upd g2 ((100 + Int32.ofNat m).toInt - 100).toNat (g m).toInt32) else (M, g2)) = _
      rw [if_pos (by omega), show ((100 + Int32.ofNat m).toInt - 100).toNat = m by omega]
    · by_cases e2 : t = m
      · rw [e2, pk_us]
      · rw [pk_un e2]
        exact h2 t (by omega)
/-- the class's row, out of the leaves -/
theorem fold_R (hr : ∀ r, R = some r → r.1 ≤ 20) : (R = none → (lall (gff D R kk) 17).foldl (fun s x => lcR x s) none = none) ∧ ∀ r, R = some r → ∃ g2 : Nat → Int32, (lall (gff D R kk) 17).foldl (fun s x => lcR x s) none = some (r.1, g2) ∧ ∀ t, t < r.1 → g2 t = (r.2 t).toInt32 := by
  have h9 := fold_9 (D := D) (R := R) (kk := kk) (loc := lcR) (fun x s h1 h2 => by unfold lcR; rw [if_neg h1, if_neg h2]) hr none
  rw [h9, gff_9]
  refine ⟨fun e => by rw [e]; rfl, fun r e => ?_⟩
  subst e
  have hm := hr r rfl
  have hv : (Int32.ofNat r.1).toInt64.toInt = (r.1 : Int) := by rw [Int32.toInt_toInt64]; exact ofN (by omega)
  have e1 : lcR (kk, 9, (Int32.ofNat r.1).toInt64) none = some (r.1, fun _ => 0) := by
    unfold lcR
    rw [if_pos (show Int32.toInt 9 = 9 by decide)]
    show (if 0 ≤ (Int32.ofNat r.1).toInt64.toInt ∧ (Int32.ofNat r.1).toInt64.toInt ≤ 20 then some ((Int32.ofNat r.1).toInt64.toInt.toNat, fun _ => (0 : Int32)) else none) = _
    rw [hv, if_pos (by omega), Int.toNat_natCast]
  obtain ⟨g2, e2, h2⟩ := fold_Rp (kk := kk) (g := r.2) (M := r.1) (fun _ => 0) r.1 (Nat.le_refl _) hm
  refine ⟨g2, ?_, h2⟩
  show ((List.range r.1).map (fun i => (kk, 100 + Int32.ofNat i, r.2 i))).foldl (fun s x => lcR x s) (lcR (kk, 9, (Int32.ofNat r.1).toInt64) none) = _
  rw [e1]
  exact e2
/-- the reference's row -/
theorem fold_ZW (hr : ∀ r, R = some r → r.1 ≤ 20) (W : Nat → Int32) : (R = none → (lall (gff D R kk) 17).foldl (fun s x => lcZ x s) (-1) = -1) ∧ ∀ r, R = some r → (lall (gff D R kk) 17).foldl (fun s x => lcZ x s) (-1) = Int32.ofNat r.1 ∧ ∀ t, t < r.1 → (lall (gff D R kk) 17).foldl (fun s x => lcW x s) W t = (r.2 t).toInt32 := by
  have h9 := fold_9 (D := D) (R := R) (kk := kk) (loc := lcZ) (fun x s h1 h2 => by unfold lcZ; rw [if_neg h1]) hr (-1)
  have w9 := fold_9 (D := D) (R := R) (kk := kk) (loc := lcW) (fun x s h1 h2 => by unfold lcW; rw [if_neg h2]) hr W
  rw [h9, w9, gff_9]
  refine ⟨fun e => by rw [e]; rfl, fun r e => ?_⟩
  subst e
  have hm := hr r rfl
  refine ⟨?_, fun t ht => ?_⟩
  · show ((List.range r.1).map (fun i => (kk, 100 + Int32.ofNat i, r.2 i))).foldl (fun s x => lcZ x s) (lcZ (kk, 9, (Int32.ofNat r.1).toInt64) (-1)) = _
    have e1 : lcZ (kk, 9, (Int32.ofNat r.1).toInt64) (-1) = Int32.ofNat r.1 := by
      unfold lcZ
      rw [if_pos (show Int32.toInt 9 = 9 by decide)]
      simp
    rw [e1]
    refine fold_id _ _ (fun x hx s => ?_)
    obtain ⟨i, hi, ex⟩ := List.mem_map.mp hx
    have hi := List.mem_range.mp hi
    rw [← ex]
    unfold lcZ
    have h1 := add100 (i := i) (by omega)
    rw [if_neg (show ¬ (100 + Int32.ofNat i).toInt = 9 by omega)]
  · show ((List.range r.1).map (fun i => (kk, 100 + Int32.ofNat i, r.2 i))).foldl (fun s x => lcW x s) (lcW (kk, 9, (Int32.ofNat r.1).toInt64) W) t = _
    rw [fold_W _ r.1 hm t, if_pos ht]
end FOLDS


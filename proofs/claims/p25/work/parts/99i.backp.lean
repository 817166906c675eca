-- MADE FROM LEAVES, purely: what makers are told, what is filled in
def tm : List (Int32 × Int32 × Int64) → Int32
  | [] => 0
  | x :: t => if x.2.1.toInt = -1 then 0 else if x.2.1.toInt = 13 ∨ x.2.1.toInt = 16 then (ks_as x.2.1 x.2.2).toInt32 else tm t
def mkl : List (Int32 × Int32 × Int64) → List (Int32 × Int32)
  | [] => []
  | x :: t => if x.2.1.toInt = -1 then (x.2.2.toInt32, tm t) :: mkl t else mkl t
def tak (x : Int32 × Int32) : Prop := ¬ x.1.toInt = 2 ∨ (0 ≤ x.2.toInt ∧ x.2.toInt ≤ 1000)
/-- what is wrong with a leaf: n objects of the classes cs -/
def fcd (n : Nat) (cs : Nat → Int32) (x : Int32 × Int32 × Int64) : Int32 := if 0 ≤ x.1.toInt ∧ x.1.toInt < (n : Int) then (if x.2.1.toInt = 8 ∨ x.2.1.toInt = 11 ∨ x.2.1.toInt = 15 then (if 0 ≤ x.2.2.toInt ∧ x.2.2.toInt < (n : Int) then (if (((sp_wan x.2.1).toInt = 5 ∧ ¬ (cs x.2.2.toInt.toNat).toInt = 4) ∨ (¬ (sp_wan x.2.1).toInt = 5 ∧ (sp_wan x.2.1).toInt ≤ 2 ∧ (sp_wan x.2.1).toInt ≤ (cs x.2.2.toInt.toNat).toInt ∧ (cs x.2.2.toInt.toNat).toInt ≤ 2) ∨ (¬ (sp_wan x.2.1).toInt = 5 ∧ ¬ (sp_wan x.2.1).toInt ≤ 2 ∧ (cs x.2.2.toInt.toNat).toInt = (sp_wan x.2.1).toInt)) then 0 else -14) else -12) else 0) else -12
def fcl (n : Nat) (cs : Nat → Int32) : List (Int32 × Int32 × Int64) → Int32
  | [] => 0
  | x :: t => if fcd n cs x = 0 then fcl n cs t else fcd n cs x
def stV (x : Int32 × Int32 × Int64) (V : Nat → Nat → Int64) : Nat → Nat → Int64 := if (0 ≤ x.2.1.toInt ∧ x.2.1.toInt < 17 ∧ ¬ x.2.1.toInt = 8 ∧ ¬ x.2.1.toInt = 9 ∧ ¬ x.2.1.toInt = 11 ∧ ¬ x.2.1.toInt = 15) ∧ ¬ (x.2.1.toInt = 13 ∨ x.2.1.toInt = 16) then va_up V (Int32.toNatClampNeg x.1) (vp_updL (V (Int32.toNatClampNeg x.1)) (Int32.toNatClampNeg x.2.1) (ks_as x.2.1 x.2.2)) else V
def stN (x : Int32 × Int32 × Int64) (N : Nat → Int → Option Nat) : Nat → Int → Option Nat := if x.2.1.toInt = 8 ∨ x.2.1.toInt = 11 ∨ x.2.1.toInt = 15 then va_up N (Int32.toNatClampNeg x.1) (fun w => if w = x.2.1.toInt then some x.2.2.toInt.toNat else N (Int32.toNatClampNeg x.1) w) else N
def stR (x : Int32 × Int32 × Int64) (R : Nat → Option (Nat × (Nat → Int32))) : Nat → Option (Nat × (Nat → Int32)) := if x.2.1.toInt = 9 then va_up R (Int32.toNatClampNeg x.1) (if 0 ≤ x.2.2.toInt ∧ x.2.2.toInt ≤ 20 then some (x.2.2.toInt.toNat, fun _ => 0) else none) else if 100 ≤ x.2.1.toInt then va_up R (Int32.toNatClampNeg x.1) ((R (Int32.toNatClampNeg x.1)).map (fun r => if x.2.1.toInt - 100 < (r.1 : Int) then (r.1, upd r.2 (x.2.1.toInt - 100).toNat x.2.2.toInt32) else r)) else R
section BACKP
variable {z : Int32} {n d : Nat → Int32} {v : Nat → Int64} {l : List (Int32 × Int32 × Int64)} {i i2 : Int32}
theorem cl_succ (h0 : 0 ≤ i.toInt) (e : i2.toInt = i.toInt + 1) : Int32.toNatClampNeg i2 = Int32.toNatClampNeg i + 1 := by
  have h1 := clamp_int h0
  have h2 := clamp_int (i := i2) (by omega)
  omega
theorem drop_at (h : LSv z n d v l) (h0 : 0 ≤ i.toInt) (h1 : i.toInt < z.toInt) : l.drop (Int32.toNatClampNeg i) = (n (Int32.toNatClampNeg i), d (Int32.toNatClampNeg i), v (Int32.toNatClampNeg i)) :: l.drop (Int32.toNatClampNeg i + 1) := by
  have e := h.at h0 h1
  obtain ⟨hl, e2⟩ := List.getElem?_eq_some_iff.mp e
  rw [List.drop_eq_getElem_cons hl, e2]
theorem drop_end (h : LSv z n d v l) (h0 : 0 ≤ i.toInt) (h1 : ¬ i.toInt < z.toInt) : l.drop (Int32.toNatClampNeg i) = [] := by
  have hc := clamp_int h0
  have := h.1
  exact List.drop_eq_nil_of_le (by omega)
theorem tm_next (h : LSv z n d v l) (h0 : 0 ≤ i.toInt) (h1 : i.toInt < z.toInt) (hn : ¬ (d (Int32.toNatClampNeg i)).toInt = -1) (hf : ¬ ((d (Int32.toNatClampNeg i)).toInt = 13 ∨ (d (Int32.toNatClampNeg i)).toInt = 16)) (e : i2.toInt = i.toInt + 1) : tm (l.drop (Int32.toNatClampNeg i2)) = tm (l.drop (Int32.toNatClampNeg i)) := by
  rw [drop_at h h0 h1, cl_succ h0 e]
  show _ = (if _ then _ else _)
  rw [if_neg hn, if_neg hf]
theorem tm_hit (h : LSv z n d v l) (h0 : 0 ≤ i.toInt) (h1 : i.toInt < z.toInt) (hn : ¬ (d (Int32.toNatClampNeg i)).toInt = -1) (hf : (d (Int32.toNatClampNeg i)).toInt = 13 ∨ (d (Int32.toNatClampNeg i)).toInt = 16) : tm (l.drop (Int32.toNatClampNeg i)) = (ks_as (d (Int32.toNatClampNeg i)) (v (Int32.toNatClampNeg i))).toInt32 := by
  rw [drop_at h h0 h1]
  show (if _ then _ else _) = _
  rw [if_neg hn, if_pos hf]
theorem tm_stop (h : LSv z n d v l) (h0 : 0 ≤ i.toInt) (h1 : i.toInt < z.toInt) (hn : (d (Int32.toNatClampNeg i)).toInt = -1) : tm (l.drop (Int32.toNatClampNeg i)) = 0 := by
  rw [drop_at h h0 h1]
  exact if_pos hn
theorem tm_end (h : LSv z n d v l) (h0 : 0 ≤ i.toInt) (h1 : ¬ i.toInt < z.toInt) : tm (l.drop (Int32.toNatClampNeg i)) = 0 := by
  rw [drop_end h h0 h1]
  rfl
theorem mkl_hit (h : LSv z n d v l) (h0 : 0 ≤ i.toInt) (h1 : i.toInt < z.toInt) (hn : (d (Int32.toNatClampNeg i)).toInt = -1) (e : i2.toInt = i.toInt + 1) : mkl (l.drop (Int32.toNatClampNeg i)) = ((v (Int32.toNatClampNeg i)).toInt32, tm (l.drop (Int32.toNatClampNeg i + 1))) :: mkl (l.drop (Int32.toNatClampNeg i2)) := by
  rw [drop_at h h0 h1, cl_succ h0 e]
  exact if_pos hn
theorem mkl_next (h : LSv z n d v l) (h0 : 0 ≤ i.toInt) (h1 : i.toInt < z.toInt) (hn : ¬ (d (Int32.toNatClampNeg i)).toInt = -1) (e : i2.toInt = i.toInt + 1) : mkl (l.drop (Int32.toNatClampNeg i)) = mkl (l.drop (Int32.toNatClampNeg i2)) := by
  rw [drop_at h h0 h1, cl_succ h0 e]
  exact if_neg hn
theorem mkl_end (h : LSv z n d v l) (h0 : 0 ≤ i.toInt) (h1 : ¬ i.toInt < z.toInt) : mkl (l.drop (Int32.toNatClampNeg i)) = [] := by
  rw [drop_end h h0 h1]
  rfl
theorem fcl_next {m : Nat} {cs : Nat → Int32} (h : LSv z n d v l) (h0 : 0 ≤ i.toInt) (h1 : i.toInt < z.toInt) (hn : fcd m cs (n (Int32.toNatClampNeg i), d (Int32.toNatClampNeg i), v (Int32.toNatClampNeg i)) = 0) (e : i2.toInt = i.toInt + 1) : fcl m cs (l.drop (Int32.toNatClampNeg i)) = fcl m cs (l.drop (Int32.toNatClampNeg i2)) := by
  rw [drop_at h h0 h1, cl_succ h0 e]
  exact if_pos hn
theorem fcl_hit {m : Nat} {cs : Nat → Int32} (h : LSv z n d v l) (h0 : 0 ≤ i.toInt) (h1 : i.toInt < z.toInt) (hn : ¬ fcd m cs (n (Int32.toNatClampNeg i), d (Int32.toNatClampNeg i), v (Int32.toNatClampNeg i)) = 0) : fcl m cs (l.drop (Int32.toNatClampNeg i)) = fcd m cs (n (Int32.toNatClampNeg i), d (Int32.toNatClampNeg i), v (Int32.toNatClampNeg i)) := by
  rw [drop_at h h0 h1]
  exact if_neg hn
theorem fcl_end {m : Nat} {cs : Nat → Int32} (h : LSv z n d v l) (h0 : 0 ≤ i.toInt) (h1 : ¬ i.toInt < z.toInt) : fcl m cs (l.drop (Int32.toNatClampNeg i)) = 0 := by
  rw [drop_end h h0 h1]
  rfl
theorem take_at (h : LSv z n d v l) (h0 : 0 ≤ i.toInt) (h1 : i.toInt < z.toInt) (e : i2.toInt = i.toInt + 1) : l.take (Int32.toNatClampNeg i2) = l.take (Int32.toNatClampNeg i) ++ [(n (Int32.toNatClampNeg i), d (Int32.toNatClampNeg i), v (Int32.toNatClampNeg i))] := by
  have e3 := h.at h0 h1
  rw [cl_succ h0 e, List.take_add_one, e3]
  rfl
theorem take_all (h : LSv z n d v l) (h0 : 0 ≤ i.toInt) (h1 : ¬ i.toInt < z.toInt) : l.take (Int32.toNatClampNeg i) = l := by
  have hc := clamp_int h0
  have := h.1
  exact List.take_of_length_le (by omega)
end BACKP


-- WHAT leaves, make, row ANSWER AND CHANGE
def ks_lv (f : Nat → va_E) (h : Nat) (s r : Int32) : Prop := if (0 ≤ s.toInt ∧ s.toInt < 12) then (match g_sl f h (Int32.toNatClampNeg s) with
  | none => r = -11
  | some x => (match tlS (-1) (g_cn f) (g_vl f) (g_lk f) (g_rw f) x with
    | none => r = -3
    | some ls => r.toInt = (ls.length : Int))) else r = -1
def ks_lvh (K : Nat → Nat) (L : List Nat) (ow : Nat → Nat) (f : Nat → va_E) (h : Nat) (s : Int32) (f2 : Nat → va_E) : Prop := if (0 ≤ s.toInt ∧ s.toInt < 12) then (match g_sl f h (Int32.toNatClampNeg s) with
  | none => f2 = f
  | some x => (match tlS (-1) (g_cn f) (g_vl f) (g_lk f) (g_rw f) x with
    | none => TF K L ow (cP (f h) 3) h f f2
    | some ls => ∃ f1, TF K L ow (cP (f h) 3) h f f1 ∧ LSt f1 (cP (f h) 3) ls ∧ f2 = s_F (s_F f1 h 2 (.ref (cP (f h) 3))) h 3 (.ref (cP (f h) 2)))) else f2 = f
def ks_vals (c n : Int32) : Nat → Int64 := if c.toInt = 2 then vp_updL (fun _ => 0) (Int32.toNatClampNeg 13) n.toInt64 else if c.toInt = 4 then vp_updL (fun _ => 0) (Int32.toNatClampNeg 16) n.toInt64 else fun _ => 0
def ks_mk (kJ : ClassId) (K : Nat → Nat) (L : List Nat) (f : Nat → va_E) (h : Nat) (s c n : Int32) (K2 : Nat → Nat) (L2 : List Nat) (f2 : Nat → va_E) : Prop := (¬ ((0 ≤ s.toInt ∧ s.toInt < 12) ∧ (0 ≤ c.toInt ∧ c.toInt ≤ 4) ∧ (¬ c.toInt = 2 ∨ (0 ≤ n.toInt ∧ n.toInt ≤ 1000))) ∧ K2 = K ∧ L2 = L ∧ f2 = f) ∨ (((0 ≤ s.toInt ∧ s.toInt < 12) ∧ (0 ≤ c.toInt ∧ c.toInt ≤ 4) ∧ (¬ c.toInt = 2 ∨ (0 ≤ n.toInt ∧ n.toInt ≤ 1000))) ∧ ∃ q u : Nat, (q ∉ L ∧ u ∉ L ∧ q ≠ u ∧ K2 = va_up (va_up K u 3) q 1 ∧ L2 = q :: u :: L) ∧ f2 = s_R (va_up (va_up f u (.inl (kJ, 17, .inr (.inl (ks_vals c n))))) q (.inr (1, [.int c, .ref u, va_rf none, va_rf none, va_rf none, va_rf none]))) (cP (f h) 0) (Int32.toNatClampNeg s) (some q))
def ks_rw (S : Nat → Option Nat) (C : Nat → Int32) (s n : Int32) : Int32 := if (0 ≤ s.toInt ∧ s.toInt < 12) ∧ n.toInt ≤ 20 then (match S (Int32.toNatClampNeg s) with
  | none => if n.toInt < 0 ∧ ¬ n.toInt = -4 then -13 else -11
  | some x => if (0 ≤ (C x).toInt ∧ (C x).toInt ≤ 2) then (if n.toInt < 0 ∧ ¬ n.toInt = -4 then -13 else n) else -14) else -1
def ks_rwh (kI : ClassId) (K : Nat → Nat) (L : List Nat) (f : Nat → va_E) (h : Nat) (s n : Int32) (K2 : Nat → Nat) (L2 : List Nat) (f2 : Nat → va_E) : Prop := ((∀ x, (0 ≤ s.toInt ∧ s.toInt < 12) → g_sl f h (Int32.toNatClampNeg s) = some x → n.toInt ≤ 20 → (0 ≤ n.toInt ∨ n.toInt = -4) → ¬ (0 ≤ (g_cn f x).toInt ∧ (g_cn f x).toInt ≤ 2)) ∧ K2 = K ∧ L2 = L ∧ f2 = f) ∨ ∃ x, ((0 ≤ s.toInt ∧ s.toInt < 12) ∧ g_sl f h (Int32.toNatClampNeg s) = some x ∧ n.toInt ≤ 20 ∧ (0 ≤ (g_cn f x).toInt ∧ (g_cn f x).toInt ≤ 2)) ∧ ((n.toInt = -4 ∧ K2 = K ∧ L2 = L ∧ f2 = s_F f x 5 (va_rf none)) ∨ (0 ≤ n.toInt ∧ ∃ q : Nat, (q ∉ L ∧ K2 = va_up K q 4 ∧ L2 = q :: L) ∧ f2 = s_F (va_up f q (.inl (kI, (Int32.toNatClampNeg n), .inl (fun _ => 0)))) x 5 (va_rf (some q))))

-- WHAT FILLING A FIELD DOES
def ks_ma (f : Nat → va_E) (h : Nat) (v : Int64) : Option Nat := if 0 ≤ v.toInt ∧ v.toInt < (cI (f h) 8).toInt then aR (f (cP (f h) 7)) v.toInt.toNat else none
theorem cl_l2i {z : Int32} {v : Int64} (h : z.toInt = v.toInt) : Int32.toNatClampNeg z = v.toInt.toNat := by
  show z.toInt.toNat = _
  rw [h]
theorem ob_ma {f : Nat → va_E} {h q7 : Nat} {q1 c1 c2 c3 q5 : Nat} {pc fc mc : Int32} {kT : ClassId} {g : Nat → Option Nat} (e : f h = .inr (2, [.ref q1, .int pc, .ref c1, .ref c2, .ref c3, .ref q5, .int fc, .ref q7, .int mc])) (e7 : f q7 = .inl (kT, 24, .inr (.inr (.inr (.inr g))))) (v : Int64) : ks_ma f h v = if 0 ≤ v.toInt ∧ v.toInt < mc.toInt then g v.toInt.toNat else none := by
  unfold ks_ma
  rw [ob_mc e, ob_q7 e, e7]
  rfl
def ks_fp (f : Nat → va_E) (x : Nat) (p v : Int32) : Nat → va_E := if p.toInt < (aN (f x) : Int) then s_I f x (Int32.toNatClampNeg p) v else f
def ks_flr (f : Nat → va_E) (h : Nat) (w : Int32) (v : Int64) : Int32 := match ks_ma f h v with
  | none => -12
  | some y => if (((sp_wan w).toInt = 5 ∧ ¬ (g_cn f y).toInt = 4) ∨ (¬ (sp_wan w).toInt = 5 ∧ (sp_wan w).toInt ≤ 2 ∧ (sp_wan w).toInt ≤ (g_cn f y).toInt ∧ (g_cn f y).toInt ≤ 2) ∨ (¬ (sp_wan w).toInt = 5 ∧ ¬ (sp_wan w).toInt ≤ 2 ∧ (g_cn f y).toInt = (sp_wan w).toInt)) then 0 else -14
def ks_fl (f : Nat → va_E) (h x : Nat) (w : Int32) (v : Int64) : Nat → va_E := match ks_ma f h v with
  | none => f
  | some y => if (((sp_wan w).toInt = 5 ∧ ¬ (g_cn f y).toInt = 4) ∨ (¬ (sp_wan w).toInt = 5 ∧ (sp_wan w).toInt ≤ 2 ∧ (sp_wan w).toInt ≤ (g_cn f y).toInt ∧ (g_cn f y).toInt ≤ 2) ∨ (¬ (sp_wan w).toInt = 5 ∧ ¬ (sp_wan w).toInt ≤ 2 ∧ (g_cn f y).toInt = (sp_wan w).toInt)) then ks_hold f x w (some y) else f
def ks_ffr (f : Nat → va_E) (h : Nat) (w : Int32) (v : Int64) : Int32 := if (w.toInt = 8 ∨ w.toInt = 11 ∨ w.toInt = 15) then ks_flr f h w v else 0
def ks_ff (kI : ClassId) (K : Nat → Nat) (L : List Nat) (f : Nat → va_E) (h x : Nat) (w : Int32) (v : Int64) (K2 : Nat → Nat) (L2 : List Nat) (f2 : Nat → va_E) : Prop := ((K2 = K ∧ L2 = L) ∧ (((w.toInt = 8 ∨ w.toInt = 11 ∨ w.toInt = 15) ∧ f2 = ks_fl f h x w v) ∨ (w.toInt = 9 ∧ ¬ (0 ≤ v.toInt ∧ v.toInt ≤ 20) ∧ f2 = s_F f x 5 (va_rf none)) ∨ (100 ≤ w.toInt ∧ ((cR (f x) 5 = none ∧ f2 = f) ∨ ∃ r p : Nat, cR (f x) 5 = some r ∧ (p : Int) = w.toInt - 100 ∧ f2 = (if (p : Int) < (aN (f r) : Int) then s_I f r p v.toInt32 else f))) ∨ (((0 ≤ w.toInt ∧ w.toInt < 17 ∧ ¬ w.toInt = 8 ∧ ¬ w.toInt = 9 ∧ ¬ w.toInt = 11 ∧ ¬ w.toInt = 15) ∧ ¬ (w.toInt = 13 ∨ w.toInt = 16)) ∧ f2 = s_J f (cP (f x) 1) (Int32.toNatClampNeg w) (ks_as w v)) ∨ ((¬ (w.toInt = 8 ∨ w.toInt = 11 ∨ w.toInt = 15) ∧ ¬ w.toInt = 9 ∧ w.toInt < 100 ∧ ¬ ((0 ≤ w.toInt ∧ w.toInt < 17 ∧ ¬ w.toInt = 8 ∧ ¬ w.toInt = 9 ∧ ¬ w.toInt = 11 ∧ ¬ w.toInt = 15) ∧ ¬ (w.toInt = 13 ∨ w.toInt = 16))) ∧ f2 = f))) ∨ ((w.toInt = 9 ∧ 0 ≤ v.toInt ∧ v.toInt ≤ 20) ∧ ∃ q : Nat, (q ∉ L ∧ K2 = va_up K q 4 ∧ L2 = q :: L) ∧ f2 = s_F (va_up f q (.inl (kI, v.toInt.toNat, .inl (fun _ => 0)))) x 5 (va_rf (some q)))

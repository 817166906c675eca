-- WHAT THE CLASS ANSWERS AND CHANGES, call by call
def sp_wan (w : Int32) : Int32 := if w.toInt = 8 then 0 else if w.toInt = 11 then 1 else 5
def sp_ft (b : Int32) : Int32 := if 2139095040 < (b &&& 2147483647).toInt then 2143289344 else b
def sp_dt (b : Int64) : Int64 := if 9218868437227405312 < (b &&& 9223372036854775807).toInt then 9221120237041090560 else b
def ks_as (w : Int32) (v : Int64) : Int64 := if (FORMt (Int32.toNatClampNeg w)).toInt = 0 then v &&& 1 else if (FORMt (Int32.toNatClampNeg w)).toInt = 1 then v.toInt32.toInt8.toInt32.toInt64 else if (FORMt (Int32.toNatClampNeg w)).toInt = 2 then v.toInt32.toInt16.toInt32.toInt64 else if (FORMt (Int32.toNatClampNeg w)).toInt = 3 then (v.toInt32.toUInt32 % 65536).toInt32.toInt64 else if (FORMt (Int32.toNatClampNeg w)).toInt = 4 then v.toInt32.toInt64 else if (FORMt (Int32.toNatClampNeg w)).toInt = 6 then (sp_ft v.toInt32).toInt64 else if (FORMt (Int32.toNatClampNeg w)).toInt = 7 then sp_dt v else v
def ks_hold (f : Nat → va_E) (x : Nat) (w : Int32) (o : Option Nat) : Nat → va_E := if w.toInt = 8 then s_F f x 2 (va_rf o) else if w.toInt = 11 then s_F f x 3 (va_rf o) else if w.toInt = 15 then s_F f x 4 (va_rf o) else f
def ks_lead (c : Int32) (N : Int → Option Nat) : Option Nat := if c.toInt = 0 then N 8 else if c.toInt = 3 then N 15 else N 11
def ks_name (c : Int32) (V : Nat → Int64) : Int32 := if c.toInt = 0 then 1 + (V 4).toInt32 else 10 * (1 + (V 4).toInt32) + (V 10).toInt32 + (V 13).toInt32
def ks_secret (V : Nat → Int64) : Int32 := (V 1).toInt32 + (V 2).toInt32
def g_nx (f : Nat → va_E) (t : Nat) : Option Nat := ks_lead (g_cn f t) (g_lk f t)
def dp (nx : Nat → Option Nat) : Nat → Option Nat → Nat
  | 0, _ => 0
  | _ + 1, none => 0
  | n + 1, some t => dp nx n (nx t) + 1
theorem dp_none (nx : Nat → Option Nat) (n : Nat) : dp nx n none = 0 := by cases n <;> rfl
theorem dp_zero (nx : Nat → Option Nat) (o : Option Nat) : dp nx 0 o = 0 := rfl
theorem dp_step {nx : Nat → Option Nat} {i i2 : Int32} {y : Nat} {o : Option Nat} {T : Int} (h : i.toInt + (dp nx (50 - i.toInt).toNat (some y) : Int) = T) (hi : i.toInt < 50) (e : i2.toInt = i.toInt + 1) (ho : o = nx y) : i2.toInt + (dp nx (50 - i2.toInt).toNat o : Int) = T := by
  have e1 : (50 - i.toInt).toNat = (50 - i2.toInt).toNat + 1 := by omega
  rw [e1] at h
  subst ho
  have h2 : dp nx ((50 - i2.toInt).toNat + 1) (some y) = dp nx (50 - i2.toInt).toNat (nx y) + 1 := rfl
  rw [h2] at h
  omega
theorem dp_end {nx : Nat → Option Nat} {i : Int32} {o : Option Nat} {T : Int} (h : i.toInt + (dp nx (50 - i.toInt).toNat o : Int) = T) (he : o = none ∨ 50 ≤ i.toInt) : i.toInt = T := by
  rcases he with rfl | he
  · rw [dp_none] at h; omega
  · have e1 : (50 - i.toInt).toNat = 0 := by omega
    rw [e1, dp_zero] at h
    omega
def kd (c : Nat → Int32) (b : Nat → Option Nat) : Nat → Option Nat → Int32 → Int32 → Int32
  | 0, _, _, s => s
  | _ + 1, none, _, s => s
  | n + 1, some t, w, s => kd c b n (b t) (w * 10) (s + w * (c t + 1))
theorem kd_none (c : Nat → Int32) (b : Nat → Option Nat) (n : Nat) (w s : Int32) : kd c b n none w s = s := by cases n <;> rfl
theorem kd_step {c : Nat → Int32} {b : Nat → Option Nat} {i i2 w w2 s s2 T : Int32} {y : Nat} {o : Option Nat} (h : kd c b (8 - i.toInt).toNat (some y) w s = T) (hi : i.toInt < 8) (e : i2.toInt = i.toInt + 1) (hw : w2 = w * 10) (hs : s2 = s + w * (c y + 1)) (ho : o = b y) : kd c b (8 - i2.toInt).toNat o w2 s2 = T := by
  have e1 : (8 - i.toInt).toNat = (8 - i2.toInt).toNat + 1 := by omega
  rw [e1] at h
  subst ho hw hs
  exact h
theorem kd_end {c : Nat → Int32} {b : Nat → Option Nat} {i w s T : Int32} {o : Option Nat} (h : kd c b (8 - i.toInt).toNat o w s = T) (he : o = none ∨ 8 ≤ i.toInt) : s = T := by
  rcases he with rfl | he
  · rw [kd_none] at h; exact h
  · have e1 : (8 - i.toInt).toNat = 0 := by omega
    rw [e1] at h
    exact h
def ks_kind (c : Nat → Int32) (b : Nat → Option Nat) (x : Nat) : Int32 := if (c x).toInt = 3 then 7 else kd c b 8 (some x) 1 0
def ks_add (f : Nat → va_E) (x : Nat) (n d : Int32) (v : Int64) : Nat → va_E := if (l_z f x).toInt < 300 then s_F (s_J (s_I (s_I f (cP (f x) 0) (Int32.toNatClampNeg (l_z f x)) n) (cP (f x) 1) (Int32.toNatClampNeg (l_z f x)) d) (cP (f x) 2) (Int32.toNatClampNeg (l_z f x)) v) x 3 (.int (l_z f x + 1)) else f
def ks_same (S : Nat → Option Nat) (s t : Int32) : Int32 := if (0 ≤ s.toInt ∧ s.toInt < 12) ∧ (0 ≤ t.toInt ∧ t.toInt < 12) then (if S (Int32.toNatClampNeg s) = S (Int32.toNatClampNeg t) then 1 else 0) else -1
def ks_cls (S : Nat → Option Nat) (C : Nat → Int32) (s : Int32) : Int32 := if (0 ≤ s.toInt ∧ s.toInt < 12) then (match S (Int32.toNatClampNeg s) with
  | none => -4
  | some x => C x) else -1
def ks_is (S : Nat → Option Nat) (C : Nat → Int32) (s w : Int32) : Int32 := if (0 ≤ s.toInt ∧ s.toInt < 12) ∧ 0 ≤ w.toInt ∧ w.toInt ≤ 5 then (match S (Int32.toNatClampNeg s) with
  | none => 0
  | some x => if ((w.toInt = 5 ∧ ¬ (C x).toInt = 4) ∨ (¬ w.toInt = 5 ∧ w.toInt ≤ 2 ∧ w.toInt ≤ (C x).toInt ∧ (C x).toInt ≤ 2) ∨ (¬ w.toInt = 5 ∧ ¬ w.toInt ≤ 2 ∧ (C x).toInt = w.toInt)) then 1 else 0) else -1
def ks_get (S : Nat → Option Nat) (C : Nat → Int32) (V : Nat → Nat → Int64) (s w : Int32) : Int64 := if (0 ≤ s.toInt ∧ s.toInt < 12) ∧ (0 ≤ w.toInt ∧ w.toInt < 17 ∧ ¬ w.toInt = 8 ∧ ¬ w.toInt = 9 ∧ ¬ w.toInt = 11 ∧ ¬ w.toInt = 15) then (match S (Int32.toNatClampNeg s) with
  | none => -11
  | some x => if (((OWNERt (Int32.toNatClampNeg w)).toInt = 5 ∧ ¬ (C x).toInt = 4) ∨ (¬ (OWNERt (Int32.toNatClampNeg w)).toInt = 5 ∧ (OWNERt (Int32.toNatClampNeg w)).toInt ≤ 2 ∧ (OWNERt (Int32.toNatClampNeg w)).toInt ≤ (C x).toInt ∧ (C x).toInt ≤ 2) ∨ (¬ (OWNERt (Int32.toNatClampNeg w)).toInt = 5 ∧ ¬ (OWNERt (Int32.toNatClampNeg w)).toInt ≤ 2 ∧ (C x).toInt = (OWNERt (Int32.toNatClampNeg w)).toInt)) then V x (Int32.toNatClampNeg w) else -14) else -1
def ks_length (S : Nat → Option Nat) (C : Nat → Int32) (R : Nat → Option (Nat × (Nat → Int32))) (s : Int32) : Int32 := if (0 ≤ s.toInt ∧ s.toInt < 12) then (match S (Int32.toNatClampNeg s) with
  | none => -11
  | some x => if (0 ≤ (C x).toInt ∧ (C x).toInt ≤ 2) then (match R x with
    | none => -11
    | some r => Int32.ofNat r.1) else -14) else -1
def ks_count (S : Nat → Option Nat) (C : Nat → Int32) (V : Nat → Nat → Int64) (s w : Int32) : Int64 := if (0 ≤ s.toInt ∧ s.toInt < 12) ∧ 0 ≤ w.toInt ∧ w.toInt ≤ 2 then (match S (Int32.toNatClampNeg s) with
  | none => -11
  | some x => if ((w.toInt = 5 ∧ ¬ (C x).toInt = 4) ∨ (¬ w.toInt = 5 ∧ w.toInt ≤ 2 ∧ w.toInt ≤ (C x).toInt ∧ (C x).toInt ≤ 2) ∨ (¬ w.toInt = 5 ∧ ¬ w.toInt ≤ 2 ∧ (C x).toInt = w.toInt)) then V x (Int32.toNatClampNeg (COUNTt (Int32.toNatClampNeg w))) else -14) else -1
def ks_thrown (C : Nat → Int32) (V : Nat → Nat → Int64) (x : Nat) : Int32 := if (C x).toInt = 4 then (V x 16).toInt32 else -14
def ks_raise (S : Nat → Option Nat) (C : Nat → Int32) (V : Nat → Nat → Int64) (s : Int32) : Int32 := if (0 ≤ s.toInt ∧ s.toInt < 12) then (match S (Int32.toNatClampNeg s) with
  | none => -11
  | some x => ks_thrown C V x) else -1
def ks_leaf (z : Int32) (n d : Nat → Int32) (v : Nat → Int64) (k w : Int32) : Int64 := if (0 ≤ k.toInt ∧ k.toInt < z.toInt) ∧ 0 ≤ w.toInt ∧ w.toInt ≤ 2 then (if w.toInt = 0 then (n (Int32.toNatClampNeg k)).toInt64 else if w.toInt = 1 then (d (Int32.toNatClampNeg k)).toInt64 else v (Int32.toNatClampNeg k)) else -1
def ks_call (S : Nat → Option Nat) (C : Nat → Int32) (V : Nat → Nat → Int64) (N : Nat → Int → Option Nat) (dpt : Nat → Int32 → Prop) (s w r : Int32) : Prop := if (0 ≤ s.toInt ∧ s.toInt < 12) ∧ 0 ≤ w.toInt ∧ w.toInt ≤ 4 then (match S (Int32.toNatClampNeg s) with
  | none => r = -11
  | some x => if w.toInt = 2 ∨ w.toInt = 3 then (if ¬ (C x).toInt = 4 then (if w.toInt = 2 then dpt x r else r = ks_kind C (fun t => N t 8) x) else r = -14) else (if (0 ≤ (C x).toInt ∧ (C x).toInt ≤ 2) then (if w.toInt = 0 then r = ks_name (C x) (V x) else if w.toInt = 1 then r = ks_secret (V x) else (match N x 8 with
    | none => r = -11
    | some y => r = ks_name (C y) (V y))) else r = -14)) else r = -1
def g_dp (f : Nat → va_E) (x : Nat) (r : Int32) : Prop := r.toInt = (dp (g_nx f) 50 (g_nx f x) : Int)
def ks_clear (f : Nat → va_E) (h : Nat) (s : Int32) : (Nat → va_E) × Int32 := if (0 ≤ s.toInt ∧ s.toInt < 12) then (s_R f (cP (f h) 0) (Int32.toNatClampNeg s) none, match g_sl f h (Int32.toNatClampNeg s) with
  | none => 0
  | some _ => 1) else (f, -1)
def ks_shr (f : Nat → va_E) (h : Nat) (s t : Int32) : (Nat → va_E) × Int32 := if (0 ≤ s.toInt ∧ s.toInt < 12) ∧ (0 ≤ t.toInt ∧ t.toInt < 12) then (s_R f (cP (f h) 0) (Int32.toNatClampNeg t) (g_sl f h (Int32.toNatClampNeg s)), 1) else (f, -1)
def ks_set (f : Nat → va_E) (h : Nat) (s w : Int32) (v : Int64) : (Nat → va_E) × Int32 := if (0 ≤ s.toInt ∧ s.toInt < 12) ∧ (0 ≤ w.toInt ∧ w.toInt < 17 ∧ ¬ w.toInt = 8 ∧ ¬ w.toInt = 9 ∧ ¬ w.toInt = 11 ∧ ¬ w.toInt = 15) then (match g_sl f h (Int32.toNatClampNeg s) with
  | none => (f, -11)
  | some x => if (((OWNERt (Int32.toNatClampNeg w)).toInt = 5 ∧ ¬ (g_cn f x).toInt = 4) ∨ (¬ (OWNERt (Int32.toNatClampNeg w)).toInt = 5 ∧ (OWNERt (Int32.toNatClampNeg w)).toInt ≤ 2 ∧ (OWNERt (Int32.toNatClampNeg w)).toInt ≤ (g_cn f x).toInt ∧ (g_cn f x).toInt ≤ 2) ∨ (¬ (OWNERt (Int32.toNatClampNeg w)).toInt = 5 ∧ ¬ (OWNERt (Int32.toNatClampNeg w)).toInt ≤ 2 ∧ (g_cn f x).toInt = (OWNERt (Int32.toNatClampNeg w)).toInt)) then (if w.toInt = 13 ∨ w.toInt = 16 then (f, -17) else (s_J f (cP (f x) 1) (Int32.toNatClampNeg w) (ks_as w v), 1)) else (f, -14)) else (f, -1)
def ks_link (f : Nat → va_E) (h : Nat) (s w t : Int32) : (Nat → va_E) × Int32 := if (0 ≤ s.toInt ∧ s.toInt < 12) ∧ (w.toInt = 8 ∨ w.toInt = 11 ∨ w.toInt = 15) ∧ (0 ≤ t.toInt ∧ t.toInt < 12) then (match g_sl f h (Int32.toNatClampNeg s), g_sl f h (Int32.toNatClampNeg t) with
  | none, none => (f, -11)
  | none, some y => if (((sp_wan w).toInt = 5 ∧ ¬ (g_cn f y).toInt = 4) ∨ (¬ (sp_wan w).toInt = 5 ∧ (sp_wan w).toInt ≤ 2 ∧ (sp_wan w).toInt ≤ (g_cn f y).toInt ∧ (g_cn f y).toInt ≤ 2) ∨ (¬ (sp_wan w).toInt = 5 ∧ ¬ (sp_wan w).toInt ≤ 2 ∧ (g_cn f y).toInt = (sp_wan w).toInt)) then (f, -11) else (f, -14)
  | some x, none => if (((OWNERt (Int32.toNatClampNeg w)).toInt = 5 ∧ ¬ (g_cn f x).toInt = 4) ∨ (¬ (OWNERt (Int32.toNatClampNeg w)).toInt = 5 ∧ (OWNERt (Int32.toNatClampNeg w)).toInt ≤ 2 ∧ (OWNERt (Int32.toNatClampNeg w)).toInt ≤ (g_cn f x).toInt ∧ (g_cn f x).toInt ≤ 2) ∨ (¬ (OWNERt (Int32.toNatClampNeg w)).toInt = 5 ∧ ¬ (OWNERt (Int32.toNatClampNeg w)).toInt ≤ 2 ∧ (g_cn f x).toInt = (OWNERt (Int32.toNatClampNeg w)).toInt)) then (ks_hold f x w none, 1) else (f, -14)
  | some x, some y => if (((OWNERt (Int32.toNatClampNeg w)).toInt = 5 ∧ ¬ (g_cn f x).toInt = 4) ∨ (¬ (OWNERt (Int32.toNatClampNeg w)).toInt = 5 ∧ (OWNERt (Int32.toNatClampNeg w)).toInt ≤ 2 ∧ (OWNERt (Int32.toNatClampNeg w)).toInt ≤ (g_cn f x).toInt ∧ (g_cn f x).toInt ≤ 2) ∨ (¬ (OWNERt (Int32.toNatClampNeg w)).toInt = 5 ∧ ¬ (OWNERt (Int32.toNatClampNeg w)).toInt ≤ 2 ∧ (g_cn f x).toInt = (OWNERt (Int32.toNatClampNeg w)).toInt)) then (if (((sp_wan w).toInt = 5 ∧ ¬ (g_cn f y).toInt = 4) ∨ (¬ (sp_wan w).toInt = 5 ∧ (sp_wan w).toInt ≤ 2 ∧ (sp_wan w).toInt ≤ (g_cn f y).toInt ∧ (g_cn f y).toInt ≤ 2) ∨ (¬ (sp_wan w).toInt = 5 ∧ ¬ (sp_wan w).toInt ≤ 2 ∧ (g_cn f y).toInt = (sp_wan w).toInt)) then (ks_hold f x w (some y), 1) else (f, -14)) else (f, -14)) else (f, -1)
def ks_follow (f : Nat → va_E) (h : Nat) (s w t : Int32) : (Nat → va_E) × Int32 := if (0 ≤ s.toInt ∧ s.toInt < 12) ∧ (w.toInt = 8 ∨ w.toInt = 11 ∨ w.toInt = 15) ∧ (0 ≤ t.toInt ∧ t.toInt < 12) then (match g_sl f h (Int32.toNatClampNeg s) with
  | none => (f, -11)
  | some x => if (((OWNERt (Int32.toNatClampNeg w)).toInt = 5 ∧ ¬ (g_cn f x).toInt = 4) ∨ (¬ (OWNERt (Int32.toNatClampNeg w)).toInt = 5 ∧ (OWNERt (Int32.toNatClampNeg w)).toInt ≤ 2 ∧ (OWNERt (Int32.toNatClampNeg w)).toInt ≤ (g_cn f x).toInt ∧ (g_cn f x).toInt ≤ 2) ∨ (¬ (OWNERt (Int32.toNatClampNeg w)).toInt = 5 ∧ ¬ (OWNERt (Int32.toNatClampNeg w)).toInt ≤ 2 ∧ (g_cn f x).toInt = (OWNERt (Int32.toNatClampNeg w)).toInt)) then (s_R f (cP (f h) 0) (Int32.toNatClampNeg t) (g_lk f x w.toInt), 1) else (f, -14)) else (f, -1)
def ks_put (f : Nat → va_E) (h : Nat) (s i v : Int32) : (Nat → va_E) × Int32 := if (0 ≤ s.toInt ∧ s.toInt < 12) then (match g_sl f h (Int32.toNatClampNeg s) with
  | none => (f, -11)
  | some x => if (0 ≤ (g_cn f x).toInt ∧ (g_cn f x).toInt ≤ 2) then (match g_rw f x with
    | none => (f, -11)
    | some r => if 0 ≤ i.toInt ∧ i.toInt < (r.1 : Int) then (s_I f (cP (f x) 5) (Int32.toNatClampNeg i) v, r.2 (Int32.toNatClampNeg i)) else (f, -12)) else (f, -14)) else (f, -1)
def ks_passes (f : Nat → va_E) (h : Nat) (s n : Int32) : (Nat → va_E) × Int32 := if (0 ≤ s.toInt ∧ s.toInt < 12) ∧ 1 ≤ n.toInt ∧ n.toInt ≤ 12 then (s_F f h 1 (.int n), match g_sl (s_F f h 1 (.int n)) h (Int32.toNatClampNeg s) with
  | none => -11
  | some x => ks_thrown (g_cn (s_F f h 1 (.int n))) (g_vl (s_F f h 1 (.int n))) x) else (f, -1)
def ks_alter (f : Nat → va_E) (h : Nat) (k : Int32) (v : Int64) : (Nat → va_E) × Int32 := if (0 ≤ k.toInt ∧ k.toInt < (l_z f (cP (f h) 2)).toInt) ∧ ¬ (l_d f (cP (f h) 2) (Int32.toNatClampNeg k)).toInt = -1 ∧ ¬ (l_d f (cP (f h) 2) (Int32.toNatClampNeg k)).toInt = 9 then (s_J f (cP (f (cP (f h) 2)) 2) (Int32.toNatClampNeg k) v, 1) else (f, -1)
theorem cl_0 : Int32.toNatClampNeg 0 = 0 := by decide
theorem cl_1 : Int32.toNatClampNeg 1 = 1 := by decide
theorem cl_2 : Int32.toNatClampNeg 2 = 2 := by decide
theorem cl_4 : Int32.toNatClampNeg 4 = 4 := by decide
theorem cl_10 : Int32.toNatClampNeg 10 = 10 := by decide
theorem cl_13 : Int32.toNatClampNeg 13 = 13 := by decide
theorem cl_16 : Int32.toNatClampNeg 16 = 16 := by decide


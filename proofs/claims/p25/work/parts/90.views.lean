-- VIEWS of cells: what an object's fields and a row's places hold
def cI (e : va_E) (i : Nat) : Int32 := match e with
  | .inr (_, l) => (match l[i]? with
    | some (.int v) => v
    | _ => 0)
  | _ => 0
def cR (e : va_E) (i : Nat) : Option Nat := match e with
  | .inr (_, l) => (match l[i]? with
    | some (.ref v) => some v
    | _ => none)
  | _ => none
def cP (e : va_E) (i : Nat) : Nat := (cR e i).getD 0
def aI (e : va_E) : Nat → Int32 := match e with
  | .inl (_, _, .inl g) => g
  | _ => fun _ => 0
def aJ (e : va_E) : Nat → Int64 := match e with
  | .inl (_, _, .inr (.inl g)) => g
  | _ => fun _ => 0
def aR (e : va_E) : Nat → Option Nat := match e with
  | .inl (_, _, .inr (.inr (.inr (.inr g)))) => g
  | _ => fun _ => none
def aN (e : va_E) : Nat := match e with
  | .inl (_, n, _) => n
  | _ => 0
/-- writes: a place of a row, a field of an object -/
def s_R (f : Nat → va_E) (a j : Nat) (o : Option Nat) : Nat → va_E := va_up f a (match f a with
  | .inl (c, n, .inr (.inr (.inr (.inr g)))) => .inl (c, n, .inr (.inr (.inr (.inr (va_up g j o)))))
  | e => e)
def s_J (f : Nat → va_E) (a j : Nat) (v : Int64) : Nat → va_E := va_up f a (match f a with
  | .inl (c, n, .inr (.inl g)) => .inl (c, n, .inr (.inl (vp_updL g j v)))
  | e => e)
def s_I (f : Nat → va_E) (a j : Nat) (v : Int32) : Nat → va_E := va_up f a (match f a with
  | .inl (c, n, .inl g) => .inl (c, n, .inl (upd g j v))
  | e => e)
def s_F (f : Nat → va_E) (a i : Nat) (v : Value) : Nat → va_E := va_up f a (match f a with
  | .inr (c, l) => .inr (c, l.set i v)
  | e => e)
-- the class: slots, an object's class, values, links, row; a list's rows
def g_sl (f : Nat → va_E) (h : Nat) : Nat → Option Nat := aR (f (cP (f h) 0))
def g_cn (f : Nat → va_E) (t : Nat) : Int32 := cI (f t) 0
def g_vl (f : Nat → va_E) (t : Nat) : Nat → Int64 := aJ (f (cP (f t) 1))
def g_lk (f : Nat → va_E) (t : Nat) (j : Int) : Option Nat := if j = 8 then cR (f t) 2 else if j = 11 then cR (f t) 3 else if j = 15 then cR (f t) 4 else none
def g_rw (f : Nat → va_E) (t : Nat) : Option (Nat × (Nat → Int32)) := (cR (f t) 5).map (fun r => (aN (f r), aI (f r)))
def l_n (f : Nat → va_E) (x : Nat) : Nat → Int32 := aI (f (cP (f x) 0))
def l_d (f : Nat → va_E) (x : Nat) : Nat → Int32 := aI (f (cP (f x) 1))
def l_v (f : Nat → va_E) (x : Nat) : Nat → Int64 := aJ (f (cP (f x) 2))
def l_z (f : Nat → va_E) (x : Nat) : Int32 := cI (f x) 3
section VIEWS
variable {f : Nat → va_E} {x h a j q1 q5 q7 c1 c2 c3 v n : Nat} {cc kT kI kJ : ClassId} {cn pc fc mc z : Int32} {b m st i : Option Nat} {gI : Nat → Int32} {gJ : Nat → Int64} {gR : Nat → Option Nat} {l : List Value}
theorem rf_view (o : Option Nat) : (match (some (va_rf o) : Option Value) with
    | some (.ref v) => some v
    | _ => none) = o := by cases o <;> rfl
theorem th_cn (e : f x = .inr (1, [.int cn, .ref v, va_rf b, va_rf m, va_rf st, va_rf i])) : g_cn f x = cn := by unfold g_cn; rw [e]; rfl
theorem th_pv (e : f x = .inr (1, [.int cn, .ref v, va_rf b, va_rf m, va_rf st, va_rf i])) : cP (f x) 1 = v := by rw [e]; rfl
theorem th_vl (e : f x = .inr (1, [.int cn, .ref v, va_rf b, va_rf m, va_rf st, va_rf i])) (ea : f v = .inl (kJ, 17, .inr (.inl gJ))) : g_vl f x = gJ := by unfold g_vl; rw [th_pv e, ea]; rfl
theorem th_b (e : f x = .inr (1, [.int cn, .ref v, va_rf b, va_rf m, va_rf st, va_rf i])) : cR (f x) 2 = b := by rw [e]; exact rf_view b
theorem th_m (e : f x = .inr (1, [.int cn, .ref v, va_rf b, va_rf m, va_rf st, va_rf i])) : cR (f x) 3 = m := by rw [e]; exact rf_view m
theorem th_s (e : f x = .inr (1, [.int cn, .ref v, va_rf b, va_rf m, va_rf st, va_rf i])) : cR (f x) 4 = st := by rw [e]; exact rf_view st
theorem th_i (e : f x = .inr (1, [.int cn, .ref v, va_rf b, va_rf m, va_rf st, va_rf i])) : cR (f x) 5 = i := by rw [e]; exact rf_view i
theorem th_lk (e : f x = .inr (1, [.int cn, .ref v, va_rf b, va_rf m, va_rf st, va_rf i])) (w : Int) : g_lk f x w = if w = 8 then b else if w = 11 then m else if w = 15 then st else none := by unfold g_lk; rw [th_b e, th_m e, th_s e]
theorem th_rw (e : f x = .inr (1, [.int cn, .ref v, va_rf b, va_rf m, va_rf st, va_rf i])) : g_rw f x = i.map (fun r => (aN (f r), aI (f r))) := by unfold g_rw; rw [th_i e]
theorem th_rw0 (e : f x = .inr (1, [.int cn, .ref v, va_rf b, va_rf m, va_rf st, va_rf none])) : g_rw f x = none := by rw [th_rw e]; rfl
theorem th_rw1 (e : f x = .inr (1, [.int cn, .ref v, va_rf b, va_rf m, va_rf st, va_rf (some a)])) (ea : f a = .inl (kI, n, .inl gI)) : g_rw f x = some (n, gI) := by rw [th_rw e]; show some (aN (f a), aI (f a)) = _; rw [ea]; rfl
theorem th_pi (e : f x = .inr (1, [.int cn, .ref v, va_rf b, va_rf m, va_rf st, va_rf (some a)])) : cP (f x) 5 = a := by unfold cP; rw [th_i e]; rfl
theorem ob_q1 (e : f h = .inr (2, .ref q1 :: l)) : cP (f h) 0 = q1 := by rw [e]; rfl
theorem ob_sl (e : f h = .inr (2, .ref q1 :: l)) (ea : f q1 = .inl (kT, 12, .inr (.inr (.inr (.inr gR))))) : g_sl f h = gR := by unfold g_sl; rw [ob_q1 e, ea]; rfl
theorem ob_pc (e : f h = .inr (2, [.ref q1, .int pc, .ref c1, .ref c2, .ref c3, .ref q5, .int fc, .ref q7, .int mc])) : cI (f h) 1 = pc := by rw [e]; rfl
theorem ob_c1 (e : f h = .inr (2, [.ref q1, .int pc, .ref c1, .ref c2, .ref c3, .ref q5, .int fc, .ref q7, .int mc])) : cP (f h) 2 = c1 := by rw [e]; rfl
theorem ob_c2 (e : f h = .inr (2, [.ref q1, .int pc, .ref c1, .ref c2, .ref c3, .ref q5, .int fc, .ref q7, .int mc])) : cP (f h) 3 = c2 := by rw [e]; rfl
theorem ob_c3 (e : f h = .inr (2, [.ref q1, .int pc, .ref c1, .ref c2, .ref c3, .ref q5, .int fc, .ref q7, .int mc])) : cP (f h) 4 = c3 := by rw [e]; rfl
theorem ob_q5 (e : f h = .inr (2, [.ref q1, .int pc, .ref c1, .ref c2, .ref c3, .ref q5, .int fc, .ref q7, .int mc])) : cP (f h) 5 = q5 := by rw [e]; rfl
theorem ob_fc (e : f h = .inr (2, [.ref q1, .int pc, .ref c1, .ref c2, .ref c3, .ref q5, .int fc, .ref q7, .int mc])) : cI (f h) 6 = fc := by rw [e]; rfl
theorem ob_q7 (e : f h = .inr (2, [.ref q1, .int pc, .ref c1, .ref c2, .ref c3, .ref q5, .int fc, .ref q7, .int mc])) : cP (f h) 7 = q7 := by rw [e]; rfl
theorem ob_mc (e : f h = .inr (2, [.ref q1, .int pc, .ref c1, .ref c2, .ref c3, .ref q5, .int fc, .ref q7, .int mc])) : cI (f h) 8 = mc := by rw [e]; rfl
theorem li_pn (e : f x = .inr (0, [.ref a, .ref j, .ref v, .int z])) : cP (f x) 0 = a := by rw [e]; rfl
theorem li_pd (e : f x = .inr (0, [.ref a, .ref j, .ref v, .int z])) : cP (f x) 1 = j := by rw [e]; rfl
theorem li_pv (e : f x = .inr (0, [.ref a, .ref j, .ref v, .int z])) : cP (f x) 2 = v := by rw [e]; rfl
theorem li_z (e : f x = .inr (0, [.ref a, .ref j, .ref v, .int z])) : l_z f x = z := by unfold l_z; rw [e]; rfl
theorem li_n (e : f x = .inr (0, [.ref a, .ref j, .ref v, .int z])) (ea : f a = .inl (kI, 300, .inl gI)) : l_n f x = gI := by unfold l_n; rw [li_pn e, ea]; rfl
theorem li_d (e : f x = .inr (0, [.ref a, .ref j, .ref v, .int z])) (ea : f j = .inl (kI, 300, .inl gI)) : l_d f x = gI := by unfold l_d; rw [li_pd e, ea]; rfl
theorem li_v (e : f x = .inr (0, [.ref a, .ref j, .ref v, .int z])) (ea : f v = .inl (kJ, 300, .inr (.inl gJ))) : l_v f x = gJ := by unfold l_v; rw [li_pv e, ea]; rfl
theorem s_R_of {k : Nat} {o : Option Nat} (e : f a = .inl (cc, n, .inr (.inr (.inr (.inr gR))))) : s_R f a k o = va_up f a (.inl (cc, n, .inr (.inr (.inr (.inr (va_up gR k o)))))) := by unfold s_R; rw [e]
theorem s_J_of {k : Nat} {w : Int64} (e : f a = .inl (cc, n, .inr (.inl gJ))) : s_J f a k w = va_up f a (.inl (cc, n, .inr (.inl (vp_updL gJ k w)))) := by unfold s_J; rw [e]
theorem s_I_of {k : Nat} {w : Int32} (e : f a = .inl (cc, n, .inl gI)) : s_I f a k w = va_up f a (.inl (cc, n, .inl (upd gI k w))) := by unfold s_I; rw [e]
theorem s_F_of {k c : Nat} {w : Value} (e : f a = .inr (c, l)) : s_F f a k w = va_up f a (.inr (c, l.set k w)) := by unfold s_F; rw [e]
end VIEWS
-- NUMBERS: slots, fields, classes
abbrev cl (s : Int32) : Nat := Int32.toNatClampNeg s
-- new cells, told
theorem fold2x {kT kI kJ : ClassId} {K : Nat → Nat} {L : List Nat} {f : Nat → va_E} {D : va_G} {H : Heap} {A : Nat → Prop} {q u : Nat} {cn : Int32} {g : Nat → Int64} (hPI : PI kT kI kJ K L f) (hP : va_P D vwCl ((q, .inr (1, [.int cn, .ref u, .null, .null, .null, .null])) :: (u, .inl (kJ, 17, .inr (.inl g))) :: va_pl L f) H) (hD : va_D A ((q, .inr (1, [.int cn, .ref u, .null, .null, .null, .null])) :: (u, .inl (kJ, 17, .inr (.inl g))) :: va_pl L f)) : ∃ (K2 : Nat → Nat) (L2 : List Nat) (f2 : Nat → va_E), PI kT kI kJ K2 L2 f2 ∧ EXT K L K2 L2 ∧ isr K2 L2 1 q ∧ (∀ a, a ∈ L → f2 a = f a) ∧ va_P D vwCl (va_pl L2 f2) H ∧ va_D A (va_pl L2 f2) ∧ (q ∉ L ∧ u ∉ L ∧ q ≠ u ∧ K2 = va_up (va_up K u 3) q 1 ∧ L2 = q :: u :: L ∧ f2 = va_up (va_up f u (.inl (kJ, 17, .inr (.inl g)))) q (.inr (1, [.int cn, .ref u, va_rf none, va_rf none, va_rf none, va_rf none]))) := by
  have hu : u ∉ L := fun h => by
    obtain ⟨i, hi⟩ := List.getElem?_of_mem (show (u, f u) ∈ va_pl L f from List.mem_map.mpr ⟨u, h, rfl⟩)
    have := hD.1 1 (i + 2) _ _ rfl hi rfl
    omega
  have hq : q ∉ u :: L := fun h => by
    rcases List.mem_cons.mp h with h | h
    · have := hD.1 0 1 _ _ rfl rfl h
      omega
    · obtain ⟨i, hi⟩ := List.getElem?_of_mem (show (q, f q) ∈ va_pl L f from List.mem_map.mpr ⟨q, h, rfl⟩)
      have := hD.1 0 (i + 2) _ _ rfl hi rfl
      omega
  rw [pl_cons hu, pl_cons hq] at hP hD
  refine ⟨_, _, _, (hPI.push (k := 3) hu ⟨g, rfl⟩).push (k := 1) hq ⟨cn, u, none, none, none, none, rfl, isr.ext isr.new (EXT.new hq), (fun _ h => by cases h), (fun _ h => by cases h), (fun _ h => by cases h), (fun _ h => by cases h)⟩, EXT.tr (EXT.new hu) (EXT.new hq), isr.new, fun a ha => (va_up_ne _ _ (fun e => hq (by rw [← e]; exact List.mem_cons_of_mem _ ha))).trans (va_up_ne _ _ (fun e => hu (by rw [← e]; exact ha))), hP, hD, fun h => hq (List.mem_cons_of_mem _ h), hu, fun e => hq (by rw [e]; exact List.mem_cons_self), rfl, rfl, rfl⟩
theorem fold1x {kT kI kJ : ClassId} {K : Nat → Nat} {L : List Nat} {f : Nat → va_E} {D : va_G} {H : Heap} {A : Nat → Prop} {q n : Nat} {g : Nat → Int32} (hPI : PI kT kI kJ K L f) (hn : n ≤ 20) (hP : va_P D vwCl (va_pl L f ++ [(q, .inl (kI, n, .inl g))]) H) (hD : va_D A (va_pl L f ++ [(q, .inl (kI, n, .inl g))])) : ∃ (K2 : Nat → Nat) (L2 : List Nat) (f2 : Nat → va_E), PI kT kI kJ K2 L2 f2 ∧ EXT K L K2 L2 ∧ isr K2 L2 4 q ∧ (∀ a, a ∈ L → f2 a = f a) ∧ va_P D vwCl (va_pl L2 f2) H ∧ va_D A (va_pl L2 f2) ∧ (q ∉ L ∧ K2 = va_up K q 4 ∧ L2 = q :: L ∧ f2 = va_up f q (.inl (kI, n, .inl g))) := by
  have hq := pl_new hD
  have hP := wp_rot hP
  have hD := wd_rot hD
  rw [pl_cons hq] at hP hD
  exact ⟨_, _, _, hPI.push (k := 4) hq ⟨n, g, rfl, hn⟩, EXT.new hq, isr.new, fun a ha => va_up_ne _ _ (fun e => hq (by rw [← e]; exact ha)), hP, hD, hq, rfl, rfl, rfl⟩


-- the static rows of the class, as numbers
def FORMt (j : Nat) : Int32 := [0, 1, 2, 3, 4, 5, 6, 7, 8, 9, 4, 8, 5, 4, 7, 8, 4].getD j 0
def OWNERt (j : Nat) : Int32 := [0, 0, 0, 0, 0, 0, 0, 0, 0, 0, 1, 1, 2, 2, 3, 3, 4].getD j 0
def COUNTt (j : Nat) : Int32 := [4, 10, 12].getD j 0
theorem vp_lt {i : Int32} {n : Nat} (h : vp_in i n) : i.toNatClampNeg < n := Nat.not_le.mp fun q => h (Or.inr q)
theorem FORMt_nat : ∀ j, j < 17 → (((FORMt j).toInt = 8 ↔ ((j : Int) = 8 ∨ (j : Int) = 11 ∨ (j : Int) = 15)) ∧ ((FORMt j).toInt = 9 ↔ (j : Int) = 9)) := by decide +kernel
theorem FORMt_is {f : Int32} (h : vp_in f 17) : (((FORMt (Int32.toNatClampNeg f)).toInt = 8 ↔ (f.toInt = 8 ∨ f.toInt = 11 ∨ f.toInt = 15)) ∧ ((FORMt (Int32.toNatClampNeg f)).toInt = 9 ↔ f.toInt = 9)) := by
  obtain ⟨j, hj, rfl⟩ := vp_in_of h (by decide)
  rw [nI_clamp (by omega), nI_toInt (by omega)]
  exact FORMt_nat j hj
theorem OWNERt_is {f : Int32} (_ : vp_in f 17) : True := trivial
theorem COUNTt_nat : ∀ j, j < 3 → (0 ≤ (COUNTt j).toInt ∧ (COUNTt j).toInt < 17) := by decide +kernel
theorem COUNTt_is {f : Int32} (h : vp_in f 3) : 0 ≤ (COUNTt (Int32.toNatClampNeg f)).toInt ∧ (COUNTt (Int32.toNatClampNeg f)).toInt < 17 := by
  obtain ⟨j, hj, rfl⟩ := vp_in_of h (by decide)
  rw [nI_clamp (by omega)]
  exact COUNTt_nat j hj
/-- a boolean answer -/
def bo (r : Int32) (P : Prop) : Prop := (r = 1 ∧ P) ∨ (r = 0 ∧ ¬ P)
/-- what every method of the class may take as given of the statics and the tables; TT: where the three static rows lie -/
def st_ok (TT : Nat × Nat × Nat) (A : Nat → Prop) (U : State) : Prop :=
  va_Z "FieldLeaves" "FORM" "[I" (.ref TT.1) A U U.heap ∧ va_T .int TT.1 17 (fun j => .int (FORMt j)) A U U.heap ∧ va_Z "FieldLeaves" "OWNER" "[I" (.ref TT.2.1) A U U.heap ∧ va_T .int TT.2.1 17 (fun j => .int (OWNERt j)) A U U.heap ∧ va_Z "FieldLeaves" "COUNT_OF" "[I" (.ref TT.2.2) A U U.heap ∧ va_T .int TT.2.2 3 (fun j => .int (COUNTt j)) A U U.heap ∧ va_AO RX1 U ∧ va_Nw (.methodLinkNest RX2 17 yX0_init "FieldLeaves") U ∧ va_Nw (.methodLinkNest RX0 26 yX2_isFinal "FieldLeaves") U ∧ va_Nw (.methodLinkNest RX0 30 yX2_asTold "FieldLeaves") U
section STOK
variable {TT : Nat × Nat × Nat} {A B : Nat → Prop} {s U : State}
theorem st_ok.zF (h : st_ok TT A s) : va_Z "FieldLeaves" "FORM" "[I" (.ref TT.1) A s s.heap := h.1
theorem st_ok.tF (h : st_ok TT A s) : va_T .int TT.1 17 (fun j => .int (FORMt j)) A s s.heap := h.2.1
theorem st_ok.zO (h : st_ok TT A s) : va_Z "FieldLeaves" "OWNER" "[I" (.ref TT.2.1) A s s.heap := h.2.2.1
theorem st_ok.tO (h : st_ok TT A s) : va_T .int TT.2.1 17 (fun j => .int (OWNERt j)) A s s.heap := h.2.2.2.1
theorem st_ok.zC (h : st_ok TT A s) : va_Z "FieldLeaves" "COUNT_OF" "[I" (.ref TT.2.2) A s s.heap := h.2.2.2.2.1
theorem st_ok.tC (h : st_ok TT A s) : va_T .int TT.2.2 3 (fun j => .int (COUNTt j)) A s s.heap := h.2.2.2.2.2.1
theorem st_ok.ao (h : st_ok TT A s) : va_AO RX1 s := h.2.2.2.2.2.2.1
theorem st_ok.n17 (h : st_ok TT A s) : va_Nw (.methodLinkNest RX2 17 yX0_init "FieldLeaves") s := h.2.2.2.2.2.2.2.1
theorem st_ok.n26 (h : st_ok TT A s) : va_Nw (.methodLinkNest RX0 26 yX2_isFinal "FieldLeaves") s := h.2.2.2.2.2.2.2.2.1
theorem st_ok.n30 (h : st_ok TT A s) : va_Nw (.methodLinkNest RX0 30 yX2_asTold "FieldLeaves") s := h.2.2.2.2.2.2.2.2.2
theorem st_call {H : Heap} {locs : List Loc} (h : st_ok TT A s) (hS : va_S A s.heap H locs) (hU : U.heap = H) (hW : s.WarmedH U.vm) (hF : ∀ q, B q → A q) : st_ok TT B U := by
  have hk : ∀ a : Nat, a < s.heap.size → ¬ A a → U.heap[a]? = s.heap[a]? := fun a h1 h2 => by rw [hU]; exact hS.2.1 a h1 h2
  obtain ⟨h1, h2, h3, h4, h5, h6, h7, h8, h9, h10⟩ := h
  exact ⟨((h1.moved hW.alike).kept hk).narrow hF, ((h2.moved hW.alike).kept hk).narrow hF, ((h3.moved hW.alike).kept hk).narrow hF, ((h4.moved hW.alike).kept hk).narrow hF, ((h5.moved hW.alike).kept hk).narrow hF, ((h6.moved hW.alike).kept hk).narrow hF, h7.moved hW.alike, va_Nw.warmM hW h8, va_Nw.warmM hW h9, va_Nw.warmM hW h10⟩
theorem st_blind (h : st_ok TT A U) (g : JFrame) (mk : MethodId) (a : Array Value) : st_ok TT A (U.calling g mk a) := by
  obtain ⟨h1, h2, h3, h4, h5, h6, h7, h8, h9, h10⟩ := h
  have r := Vm.Alike.refl U.vm
  exact ⟨va_Z.moved (u := U) (U := U.calling g mk a) r h1, va_T.moved (u := U) (U := U.calling g mk a) r h2, va_Z.moved (u := U) (U := U.calling g mk a) r h3, va_T.moved (u := U) (U := U.calling g mk a) r h4, va_Z.moved (u := U) (U := U.calling g mk a) r h5, va_T.moved (u := U) (U := U.calling g mk a) r h6, va_AO.moved (u := U) (U := U.calling g mk a) r h7, va_Nw.same rfl rfl h8, va_Nw.same rfl rfl h9, va_Nw.same rfl rfl h10⟩
end STOK
/-- a method's start: its cells ws, those that it may write wA, its rows' classes tys -/
def pr (dC : Nat → ClassId) (dI : Nat → Nat → Nat) (ws wA : va_W) (tys : List (ClassId × FieldType)) (sz : Nat) (TT : Nat × Nat × Nat) (U : State) : Prop :=
  U.heap.size = sz ∧ va_P (dC, dI) vwCl ws U.heap ∧ va_K (dC, dI) vwCl tys U ∧ va_D (fun _ => True) wA ∧ st_ok TT (va_A wA sz) U
section PRE
variable {dC : Nat → ClassId} {dI : Nat → Nat → Nat} {ws wA : va_W} {tys : List (ClassId × FieldType)} {sz : Nat} {TT : Nat × Nat × Nat} {av : List Value} {s : State} {H H1 : Heap} {A : Nat → Prop} {locs : List Loc}
theorem pr_blind : FrameBlind (va_Pc av (pr dC dI ws wA tys sz TT)) := fun a U g mk q => by
  obtain ⟨q0, q1, qP, qK, qD, qs⟩ := q
  exact ⟨q0, q1, qP, va_K.moved (u := U) (U := U.calling g mk a) (Vm.Alike.refl U.vm) qK, qD, st_blind qs g mk a⟩
theorem pr_S (hP : va_P (dC, dI) vwCl ws H) (hK : va_K (dC, dI) vwCl tys s) (hDt : va_D (fun _ => True) wA) (hst : st_ok TT A s) (hS : va_S A s.heap H locs) (hF : ∀ q, va_A wA H.size q → A q) : PreS s H (va_Pc av (pr dC dI ws wA tys H.size TT)) av :=
  ⟨pr_blind, fun U hU hW => ⟨rfl, by rw [hU], by rw [hU]; exact hP, va_K.moved hW.alike hK, hDt, st_call hst hS hU hW hF⟩⟩
theorem ro_free {H0 : Heap} (hS : va_S A H0 H locs) (hA : ∀ q : Nat, H0.size ≤ q → A q) : ∀ q, va_A [] H.size q → A q := fun q h => by
  rcases h with ⟨k, e, h⟩ | h
  · simp at h
  · exact hA q (Nat.le_trans hS.1 h)
theorem ro_keep (hP : va_P (dC, dI) vwCl ws H) (hk : ∀ q : Nat, q < H.size → ¬ va_A [] H.size q → H1[q]? = H[q]?) : va_P (dC, dI) vwCl ws H1 :=
  hP.kept (fun k q h => hk q.1 (hP k q h).lt (fun z => by
    rcases z with ⟨k, e, z⟩ | z
    · simp at z
    · exact absurd (hP k q h).lt (Nat.not_lt.mpr z)))
theorem vd_nil {A : Nat → Prop} : va_D A [] := ⟨fun i j p q h => by simp at h, fun k q h => by simp at h⟩
end PRE
theorem newI (n : Nat) : ∀ cA : ClassId, vp_cell cA (n, .inl (fun _ => 0)) = arrV cA n (fun _ => defaultValue .int) := fun _ => rfl
theorem newJ (n : Nat) : ∀ cA : ClassId, vp_cell cA (n, .inr (.inl (fun _ => 0))) = arrV cA n (fun _ => defaultValue .long) := fun _ => rfl
theorem newZ (n : Nat) : ∀ cA : ClassId, vp_cell cA (n, .inl (fun _ => 0)) = arrV cA n (fun _ => defaultValue .boolean) := fun _ => rfl


set_option maxRecDepth 100000 in
set_option maxHeartbeats 4000000 in
theorem law_st {s : State} {b : Nat} (hts : ∀ w ∈ lw_tbl, w.before #[Value.ref b] s = true) (hgv : (Jvm.Cond.and given_1 narrow_1).before #[Value.ref b] s = true) : ∃ TT, st_ok TT (fun q : Nat => s.heap.size ≤ q) s := by
  have hs := flat_of_before _ hgv
  have hA : ∀ a : Nat, a < s.heap.size → ¬ (fun q : Nat => s.heap.size ≤ q) a := fun a h => Nat.not_le.mpr h
  have aF : (Cond.arrayOf (.static "FieldLeaves" "FORM" "[I") .int).before #[Value.ref b] s = true := hs _ (by decide +kernel)
  have nF : (Cond.eq (.length (.static "FieldLeaves" "FORM" "[I")) (.int 17)).before #[Value.ref b] s = true := hs _ (by decide +kernel)
  have mF : ∀ j, j < 17 → Cond.eq (.elem (.static "FieldLeaves" "FORM" "[I") (.int (Int32.ofNat j))) (.int (FORMt j)) ∈ flatC (Jvm.Cond.and given_1 narrow_1) := by decide +kernel
  obtain ⟨tF, eF, hF⟩ := va_Tof (f := fun j => .int (FORMt j)) (A := fun q : Nat => s.heap.size ≤ q) (N := 17) (by decide) aF (va_eqt nF) (fun j hj => va_eqt (hs _ (mF j hj))) hA
  have zF := va_Zof (hts (.laysStatic "FieldLeaves" "FORM" "[I") (by decide +kernel)) (hts (.initialized "FieldLeaves") (by decide +kernel)) eF hA
  have aO : (Cond.arrayOf (.static "FieldLeaves" "OWNER" "[I") .int).before #[Value.ref b] s = true := hs _ (by decide +kernel)
  have nO : (Cond.eq (.length (.static "FieldLeaves" "OWNER" "[I")) (.int 17)).before #[Value.ref b] s = true := hs _ (by decide +kernel)
  have mO : ∀ j, j < 17 → Cond.eq (.elem (.static "FieldLeaves" "OWNER" "[I") (.int (Int32.ofNat j))) (.int (OWNERt j)) ∈ flatC (Jvm.Cond.and given_1 narrow_1) := by decide +kernel
  obtain ⟨tO, eO, hO⟩ := va_Tof (f := fun j => .int (OWNERt j)) (A := fun q : Nat => s.heap.size ≤ q) (N := 17) (by decide) aO (va_eqt nO) (fun j hj => va_eqt (hs _ (mO j hj))) hA
  have zO := va_Zof (hts (.laysStatic "FieldLeaves" "OWNER" "[I") (by decide +kernel)) (hts (.initialized "FieldLeaves") (by decide +kernel)) eO hA
  have aC : (Cond.arrayOf (.static "FieldLeaves" "COUNT_OF" "[I") .int).before #[Value.ref b] s = true := hs _ (by decide +kernel)
  have nC : (Cond.eq (.length (.static "FieldLeaves" "COUNT_OF" "[I")) (.int 3)).before #[Value.ref b] s = true := hs _ (by decide +kernel)
  have mC : ∀ j, j < 3 → Cond.eq (.elem (.static "FieldLeaves" "COUNT_OF" "[I") (.int (Int32.ofNat j))) (.int (COUNTt j)) ∈ flatC (Jvm.Cond.and given_1 narrow_1) := by decide +kernel
  obtain ⟨tC, eC, hC⟩ := va_Tof (f := fun j => .int (COUNTt j)) (A := fun q : Nat => s.heap.size ≤ q) (N := 3) (by decide) aC (va_eqt nC) (fun j hj => va_eqt (hs _ (mC j hj))) hA
  have zC := va_Zof (hts (.laysStatic "FieldLeaves" "COUNT_OF" "[I") (by decide +kernel)) (hts (.initialized "FieldLeaves") (by decide +kernel)) eC hA
  exact ⟨(tF, tO, tC), zF, hF, zO, hO, zC, hC, va_AO.of (hts (.arrayOver (.object "FieldLeaves$Thing")) (by decide +kernel)), va_Nw.of rfl (hts (.methodLinkNest RX2 17 yX0_init "FieldLeaves") (by decide +kernel)), va_Nw.of rfl (hts (.methodLinkNest RX0 26 yX2_isFinal "FieldLeaves") (by decide +kernel)), va_Nw.of rfl (hts (.methodLinkNest RX0 30 yX2_asTold "FieldLeaves") (by decide +kernel))⟩

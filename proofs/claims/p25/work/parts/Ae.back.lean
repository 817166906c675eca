-- BACK on both sides
section BACKS
variable {n : Nat} {c : Nat → Int32} {D : Nat → Nat → Option Int64} {R : Nat → Option (Nat × (Nat → Int64))}
theorem sbl_clamp (hw : WFd n c D R) : ∀ k, k < n → ∀ x ∈ sbl c D R k, Int32.toNatClampNeg x.1 = k := fun k hk x hx => by
  have := hw.1
  rw [sbl_fst hx, clN (by omega)]
theorem fold_obj (hw : WFd n c D R) {α : Type} {st : (Int32 × Int32 × Int64) → (Nat → α) → Nat → α} {loc : (Int32 × Int32 × Int64) → α → α} (hst : ∀ x S, st x S = va_up S (Int32.toNatClampNeg x.1) (loc x (S (Int32.toNatClampNeg x.1)))) (hm1 : ∀ (a : Int32) (v : Int64) (s : α), loc (a, -1, v) s = s) (S : Nat → α) {k : Nat} (hk : k < n) : (sll n c D R).foldl (fun s x => st x s) S k = (lall (gff (D k) (R k) (Int32.ofNat k)) 17).foldl (fun s x => loc x s) (S k) := by
  have h := (fold_lall hst (O := sbl c D R) S n (sbl_clamp hw) k).1 hk
  rw [show (sll n c D R).foldl (fun s x => st x s) S k = (sbl c D R k).foldl (fun s x => loc x s) (S k) from h, sbl_cons]
  show (lall _ 17).foldl (fun s x => loc x s) (loc (Int32.ofNat k, -1, (c k).toInt64) (S k)) = _
  rw [hm1]
theorem pcl_in (w : Int) (h : pcl w = true) : 0 ≤ w ∧ w < 17 ∧ ¬ w = 9 := by
  have := of_decide_eq_true h
  omega
theorem prf_in (w : Int) (h : prf w = true) : 0 ≤ w ∧ w < 17 ∧ ¬ w = 9 := by
  have := of_decide_eq_true h
  omega
/-- the values of what is made, on both sides -/
theorem made_V (hw : WFd n c D R) {k j : Nat} (hk : k < n) (hj : j < 17) (hl : ¬ lkf j) (h9 : ¬ j = 9) {S : Nat → Nat → Int64} (hS : S k = ks_vals (c k) (tmv (D k))) : (sll n c D R).foldl (fun s x => stV x s) S k j = (sll n c D R).foldl (fun s x => rstV x s) S k j ∧ (¬ hs (c k).toInt (j : Int) = true → (sll n c D R).foldl (fun s x => stV x s) S k j = 0) := by
  have hr : ∀ r, R k = some r → r.1 ≤ 20 := fun r hr => ((hw.2 k hk).2.2 r hr).2
  have hc := (hw.2 k hk).1
  unfold lkf at hl
  have hjn := ofN (k := j) (by omega)
  have hA : (sll n c D R).foldl (fun s x => stV x s) S k j = if j < 17 ∧ pcl (j : Int) = true then (match D k j with
    | none => S k j
    | some y => ks_as (Int32.ofNat j) y) else S k j := by
    rw [fold_obj hw stV_lc (fun a v s => if_neg (show ¬ pcl (Int32.toInt (-1)) = true by decide)) S hk]
    exact fold_V pcl_in hr _ j hj 17 (Nat.le_refl _)
  have hB : (sll n c D R).foldl (fun s x => rstV x s) S k j = if j < 17 ∧ prf (j : Int) = true then (match D k j with
    | none => S k j
    | some y => rs_val (Int32.ofNat j) y) else S k j := by
    rw [fold_obj hw rstV_lc (fun a v s => if_neg (show ¬ prf (Int32.toInt (-1)) = true by decide)) S hk]
    exact fold_V prf_in hr _ j hj 17 (Nat.le_refl _)
  have hp : j < 17 ∧ prf (j : Int) = true := ⟨hj, decide_eq_true (by omega)⟩
  rw [if_pos hp] at hB
  by_cases hf : j = 13 ∨ j = 16
  · have hnp : ¬ (j < 17 ∧ pcl (j : Int) = true) := fun q => by
      have := of_decide_eq_true q.2
      omega
    rw [if_neg hnp] at hA
    rw [hA, hB, hS]
    refine ⟨?_, fun hh => ks_vals_no hc hh⟩
    cases hD : D k j with
    | none => rfl
    | some y =>
      have hh := (hw.2 k hk).2.1 j hj (by rw [hD]; exact fun q => by cases q) h9
      have hh2 := hs_iff.mp hh
      have e13 : Int32.toNatClampNeg 13 = 13 := by decide
      have e16 : Int32.toNatClampNeg 16 = 16 := by decide
      show ks_vals (c k) (tmv (D k)) j = rs_val (Int32.ofNat j) y
      have hrv : rs_val (Int32.ofNat j) y = y.toInt32.toInt64 := by
        unfold rs_val
        rw [hjn]
        rw [if_neg (by omega), if_neg (by omega), if_neg (by omega), if_neg (by omega), if_neg (by omega), if_neg (by omega), if_neg (by omega)]
      rw [hrv]
      unfold ks_vals
      rw [e13, e16]
      by_cases h13 : j = 13
      · subst h13
        have h2 : (c k).toInt = 2 := by omega
        have ht : tmv (D k) = y.toInt32 := by
          unfold tmv
          rw [hD]
        rw [if_pos h2, pk_uLs, ht]
      · have h16 : j = 16 := by omega
        subst h16
        have h4 : (c k).toInt = 4 := by omega
        have h13 : D k 13 = none := D_no hw hk (by omega) (by omega) (mt hs_iff.mp (by omega))
        have ht : tmv (D k) = y.toInt32 := by
          unfold tmv
          rw [h13, hD]
        rw [if_neg (by omega), if_pos h4, pk_uLs, ht]
  · have hpc : j < 17 ∧ pcl (j : Int) = true := ⟨hj, decide_eq_true (by omega)⟩
    rw [if_pos hpc] at hA
    rw [hA, hB]
    refine ⟨?_, fun hh => ?_⟩
    · cases hD : D k j with
      | none => rfl
      | some y =>
        show ks_as (Int32.ofNat j) y = rs_val (Int32.ofNat j) y
        rw [val_is (by omega)]
    · rw [D_no hw hk hj h9 hh, hS]
      exact ks_vals_no hc hh
theorem made_N (hw : WFd n c D R) {k : Nat} (hk : k < n) (w : Int) : (sll n c D R).foldl (fun s x => stN x s) (fun _ _ => none) k w = if w = 8 ∨ w = 11 ∨ w = 15 then (D k w.toNat).map (fun y => y.toInt.toNat) else none := by
  have hr : ∀ r, R k = some r → r.1 ≤ 20 := fun r hr => ((hw.2 k hk).2.2 r hr).2
  rw [fold_obj hw stN_lc (fun a v s => if_neg (show ¬ (Int32.toInt (-1) = 8 ∨ Int32.toInt (-1) = 11 ∨ Int32.toInt (-1) = 15) by decide)) _ hk, fold_N hr _ w 17 (Nat.le_refl _)]
  by_cases hc : w = 8 ∨ w = 11 ∨ w = 15
  · rw [if_pos hc, if_pos (by omega)]
    cases D k w.toNat <;> rfl
  · rw [if_neg hc, if_neg (by omega)]
theorem made_R (hw : WFd n c D R) {k : Nat} (hk : k < n) (W : Nat → Nat → Int32) : (R k = none → (sll n c D R).foldl (fun s x => stR x s) (fun _ => none) k = none ∧ (sll n c D R).foldl (fun s x => rstZ x s) (fun _ => -1) k = -1) ∧ ∀ r, R k = some r → (∃ g2 : Nat → Int32, (sll n c D R).foldl (fun s x => stR x s) (fun _ => none) k = some (r.1, g2) ∧ ∀ t, t < r.1 → g2 t = (r.2 t).toInt32) ∧ (sll n c D R).foldl (fun s x => rstZ x s) (fun _ => -1) k = Int32.ofNat r.1 ∧ ∀ t, t < r.1 → (sll n c D R).foldl (fun s x => rstW x s) W k t = (r.2 t).toInt32 := by
  have hr : ∀ r, R k = some r → r.1 ≤ 20 := fun r hr => ((hw.2 k hk).2.2 r hr).2
  rw [fold_obj hw stR_lc (fun a v s => by unfold lcR; rw [if_neg (show ¬ Int32.toInt (-1) = 9 by decide), if_neg (show ¬ 100 ≤ Int32.toInt (-1) by decide)]) _ hk, fold_obj hw rstZ_lc (fun a v s => if_neg (show ¬ Int32.toInt (-1) = 9 by decide)) _ hk, fold_obj hw rstW_lc (fun a v s => if_neg (show ¬ 100 ≤ Int32.toInt (-1) by decide)) _ hk]
  obtain ⟨a1, a2⟩ := fold_R (D := D k) (kk := Int32.ofNat k) hr
  obtain ⟨b1, b2⟩ := fold_ZW (D := D k) (kk := Int32.ofNat k) hr (W k)
  exact ⟨fun h => ⟨a1 h, b1 h⟩, fun r h => ⟨a2 r h, b2 r h⟩⟩
theorem fcd_rfd (hw : WFd n c D R) {cs1 cs2 : Nat → Int32} (h1 : ∀ i, i < n → cs1 i = c i) (h2 : ∀ i, i < n → cs2 i = c i) {x : Int32 × Int32 × Int64} (hx : x ∈ sll n c D R) : fcd n cs1 x = rfd n cs2 x := by
  obtain ⟨a, b, v⟩ := x
  obtain ⟨i, hi⟩ := List.getElem?_of_mem hx
  have hr := ((fit_sll hw).2.1 i _ hi).1
  have hr : 0 ≤ a.toInt ∧ a.toInt < (n : Int) := hr
  have hl : fcd n cs1 (a, b, v) = (if b.toInt = 8 ∨ b.toInt = 11 ∨ b.toInt = 15 then (if 0 ≤ v.toInt ∧ v.toInt < (n : Int) then (if (((sp_wan b).toInt = 5 ∧ ¬ (cs1 v.toInt.toNat).toInt = 4) ∨ (¬ (sp_wan b).toInt = 5 ∧ (sp_wan b).toInt ≤ 2 ∧ (sp_wan b).toInt ≤ (cs1 v.toInt.toNat).toInt ∧ (cs1 v.toInt.toNat).toInt ≤ 2) ∨ (¬ (sp_wan b).toInt = 5 ∧ ¬ (sp_wan b).toInt ≤ 2 ∧ (cs1 v.toInt.toNat).toInt = (sp_wan b).toInt)) then 0 else -14) else -12) else 0) := if_pos hr
  rw [hl]
  by_cases hb : b.toInt = 8 ∨ b.toInt = 11 ∨ b.toInt = 15
  · rw [if_pos hb, rfd_lk hb]
    by_cases hv : 0 ≤ v.toInt ∧ v.toInt < (n : Int)
    · rw [if_pos hv, if_pos hv]
      have hk : v.toInt.toNat < n := by omega
      rw [h1 _ hk, h2 _ hk]
      have hc := (hw.2 _ hk).1
      have hm := wan_may (c := c v.toInt.toNat) (w := b) hc hb
      unfold mayI at hm
      by_cases hq : (b.toInt = 8 ∧ (c v.toInt.toNat).toInt < 3) ∨ (¬ b.toInt = 8 ∧ b.toInt = 11 ∧ ((c v.toInt.toNat).toInt = 1 ∨ (c v.toInt.toNat).toInt = 2)) ∨ (¬ b.toInt = 8 ∧ ¬ b.toInt = 11 ∧ (c v.toInt.toNat).toInt < 4)
      · rw [if_pos (hm.mpr hq), if_pos hq]
      · rw [if_neg (mt hm.mp hq), if_neg hq]
    · rw [if_neg hv, if_neg hv]
  · rw [if_neg hb, rfd_no hb]
theorem fcl_rfcl {cs1 cs2 : Nat → Int32} : ∀ (l : List (Int32 × Int32 × Int64)), (∀ x ∈ l, fcd n cs1 x = rfd n cs2 x) → fcl n cs1 l = rfcl n cs2 l
  | [], _ => rfl
  | x :: l, h => by
    show (if fcd n cs1 x = 0 then fcl n cs1 l else fcd n cs1 x) = (if rfd n cs2 x = 0 then rfcl n cs2 l else rfd n cs2 x)
    rw [h x List.mem_cons_self, fcl_rfcl l (fun y hy => h y (List.mem_cons_of_mem _ hy))]
theorem rfcl_all {cs : Nat → Int32} : ∀ {l : List (Int32 × Int32 × Int64)}, rfcl n cs l = 0 → ∀ x ∈ l, rfd n cs x = 0
  | [], _, x, hx => absurd hx List.not_mem_nil
  | y :: l, h, x, hx => by
    have h : (if rfd n cs y = 0 then rfcl n cs l else rfd n cs y) = 0 := h
    by_cases hy : rfd n cs y = 0
    · rw [if_pos hy] at h
      rcases List.mem_cons.mp hx with e | hx
      · rw [e]; exact hy
      · exact rfcl_all h x hx
    · rw [if_neg hy] at h
      exact absurd h hy
theorem csM_sll (hw : WFd n c D R) {i : Nat} (hi : i < n) : csM (mkl (sll n c D R)) i = c i := by
  unfold csM
  rw [(mkl_at hw).2 i hi]
theorem vsM_sll (hw : WFd n c D R) {i : Nat} (hi : i < n) : vsM (mkl (sll n c D R)) i = ks_vals (c i) (tmv (D i)) := by
  unfold vsM
  rw [(mkl_at hw).2 i hi]
theorem tak_sll (hw : WFd n c D R) : (∀ x ∈ mkl (sll n c D R), tak x) ↔ ∀ i, i < n → ¬ badT (sll n c D R) i := by
  have e := mkl_sll hw n (Nat.le_refl _)
  have e : mkl (sll n c D R) = (List.range n).map (fun k => (c k, tmv (D k))) := e
  constructor
  · intro h i hi hb
    exact (bad_sll hw hi).mp hb (h _ (by rw [e]; exact List.mem_map.mpr ⟨i, List.mem_range.mpr hi, rfl⟩))
  · intro h x hx
    rw [e] at hx
    obtain ⟨i, hi, ex⟩ := List.mem_map.mp hx
    rw [← ex]
    exact Classical.byContradiction (fun q => h i (List.mem_range.mp hi) ((bad_sll hw (List.mem_range.mp hi)).mpr q))
theorem fcl_sll (hw : WFd n c D R) : fcl (mkl (sll n c D R)).length (csM (mkl (sll n c D R))) (sll n c D R) = rfcl n (csT (sll n c D R)) (sll n c D R) := by
  rw [(mkl_at hw).1]
  exact fcl_rfcl _ (fun x hx => fcd_rfd hw (fun i hi => csM_sll hw hi) (fun i hi => csT_sll hw hi) hx)
/-- the answers of back -/
theorem back_ans (hw : WFd n c D R) {s r r2 : Int32} (h1 : ks_bk (sll n c D R) s r) (h2 : rs_back (sll n c D R) n s r2) : r = r2 := by
  obtain ⟨a1, a2, a3, a4, a5⟩ := h1
  obtain ⟨b1, b2, b3, b4, b5⟩ := h2
  by_cases hs : 0 ≤ s.toInt ∧ s.toInt < 12
  · by_cases hl : sll n c D R = []
    · exact (a2 hs hl).trans (b2 hs hl).symm
    · by_cases hg : ∀ i, i < n → ¬ badT (sll n c D R) i
      · have ht := (tak_sll hw).mpr hg
        by_cases hf : rfcl n (csT (sll n c D R)) (sll n c D R) = 0
        · have h3 := a5 ⟨hs, hl, ht, by rw [fcl_sll hw]; exact hf⟩
          rw [(mkl_at hw).1] at h3
          exact Int32.toInt_inj.mp (h3.trans (b5 hs hl hg hf).symm)
        · have h3 := a4 hs hl ht (by rw [fcl_sll hw]; exact hf)
          rw [fcl_sll hw] at h3
          exact h3.trans (b4 hs hl hg hf).symm
      · have hb : ∃ i, i < n ∧ badT (sll n c D R) i := Classical.byContradiction (fun q => hg (fun i hi hb => q ⟨i, hi, hb⟩))
        have ht : ∃ x, x ∈ mkl (sll n c D R) ∧ ¬ tak x := Classical.byContradiction (fun q => hg ((tak_sll hw).mp (fun x hx => Classical.byContradiction (fun q2 => q ⟨x, hx, q2⟩))))
        exact (a3 hs hl ht).trans (b3 hs hl hb).symm
  · exact (a1 hs).trans (b1 hs).symm
end BACKS


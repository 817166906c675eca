-- THE LEAVES ARE THE SAME under the tie
section MAPS
variable {A : Nat → Prop} {rho : Nat → Nat} {N N2 : Nat → Int → Option Nat}
theorem ad_map (hinj : ∀ a b, A a → A b → rho a = rho b → a = b) {l : List Nat} {o : Option Nat} (hl : ∀ t ∈ l, A t) (ho : ∀ t, o = some t → A t) : ad (l.map rho) (o.map rho) = (ad l o).map rho ∧ ∀ t ∈ ad l o, A t := by
  cases o with
  | none => exact ⟨rfl, hl⟩
  | some t =>
    have ht := ho t rfl
    have hiff : rho t ∈ l.map rho ↔ t ∈ l := by
      constructor
      · intro h
        obtain ⟨u, hu, e⟩ := List.mem_map.mp h
        have := hinj u t (hl u hu) ht e
        rw [← this]; exact hu
      · intro h; exact List.mem_map.mpr ⟨t, h, rfl⟩
    by_cases hm : t ∈ l
    · rw [ad_old hm]
      show ad (l.map rho) (some (rho t)) = _ ∧ _
      rw [ad_old (hiff.mpr hm)]
      exact ⟨rfl, hl⟩
    · rw [ad_new hm]
      show ad (l.map rho) (some (rho t)) = _ ∧ _
      rw [ad_new (mt hiff.mp hm)]
      refine ⟨by simp, fun u hu => ?_⟩
      rcases List.mem_append.mp hu with h | h
      · exact hl u h
      · rw [List.mem_singleton.mp h]; exact ht
theorem st3_map (hinj : ∀ a b, A a → A b → rho a = rho b → a = b) (hN : ∀ a w, A a → N (rho a) w = (N2 a w).map rho) (hcl : ∀ a w t, A a → N2 a w = some t → A t) {l : List Nat} {t : Nat} (hl : ∀ t ∈ l, A t) (ht : A t) : st3 N (l.map rho) (rho t) = (st3 N2 l t).map rho ∧ ∀ u ∈ st3 N2 l t, A u := by
  unfold st3
  rw [hN t 8 ht, hN t 11 ht, hN t 15 ht]
  obtain ⟨a1, a2⟩ := ad_map hinj hl (hcl t 8 · ht)
  obtain ⟨b1, b2⟩ := ad_map hinj a2 (hcl t 11 · ht)
  obtain ⟨c1, c2⟩ := ad_map hinj b2 (hcl t 15 · ht)
  rw [a1, b1, c1]
  exact ⟨rfl, c2⟩
theorem fd_map (hinj : ∀ a b, A a → A b → rho a = rho b → a = b) (hN : ∀ a w, A a → N (rho a) w = (N2 a w).map rho) (hcl : ∀ a w t, A a → N2 a w = some t → A t) (n : Nat) : ∀ (i : Nat) (l : List Nat), (∀ t ∈ l, A t) → fd N n i (l.map rho) = (fd N2 n i l).map (List.map rho) ∧ ∀ l2, fd N2 n i l = some l2 → ∀ t ∈ l2, A t := by
  induction n with
  | zero =>
    intro i l hl
    exact ⟨rfl, fun l2 h2 => by cases h2; exact hl⟩
  | succ n ih =>
    intro i l hl
    cases e : l[i]? with
    | none =>
      have hle : l.length ≤ i := List.getElem?_eq_none_iff.mp e
      rw [fd_end (N := N2) hle, fd_end (N := N) (by simpa using hle)]
      exact ⟨rfl, fun l2 h2 => by cases h2; exact hl⟩
    | some t =>
      have ht : A t := hl t (List.mem_of_getElem? e)
      have e2 : (l.map rho)[i]? = some (rho t) := by rw [List.getElem?_map, e]; rfl
      obtain ⟨s1, s2⟩ := st3_map hinj hN hcl hl ht
      by_cases hlen : (st3 N2 l t).length ≤ 24
      · rw [fd_step e hlen, fd_step e2 (by rw [s1, List.length_map]; exact hlen), s1]
        exact ih (i + 1) _ s2
      · rw [fd_over e hlen, fd_over e2 (by rw [s1, List.length_map]; exact hlen)]
        exact ⟨rfl, fun l2 h2 => by cases h2⟩
theorem ad_sub {l : List Nat} {o : Option Nat} : (∀ t ∈ l, t ∈ ad l o) ∧ ∀ t, o = some t → t ∈ ad l o := by
  obtain ⟨m, e⟩ := ad_pre l o
  refine ⟨fun t ht => by rw [e]; exact List.mem_append_left _ ht, fun t ho => ?_⟩
  subst ho
  by_cases h : t ∈ l
  · rw [ad_old h]; exact h
  · rw [ad_new h]; exact List.mem_append_right _ (List.mem_singleton.mpr rfl)
theorem st3_sub {l : List Nat} {t : Nat} : (∀ u ∈ l, u ∈ st3 N l t) ∧ ∀ w u, (w = 8 ∨ w = 11 ∨ w = 15) → N t w = some u → u ∈ st3 N l t := by
  unfold st3
  obtain ⟨a1, a2⟩ := ad_sub (l := l) (o := N t 8)
  obtain ⟨b1, b2⟩ := ad_sub (l := ad l (N t 8)) (o := N t 11)
  obtain ⟨c1, c2⟩ := ad_sub (l := ad (ad l (N t 8)) (N t 11)) (o := N t 15)
  refine ⟨fun u hu => c1 u (b1 u (a1 u hu)), fun w u hw hu => ?_⟩
  rcases hw with rfl | rfl | rfl
  · exact c1 u (b1 u (a2 u hu))
  · exact c1 u (b2 u hu)
  · exact c2 u hu
theorem st3_pre (l : List Nat) (t : Nat) : ∃ m, st3 N l t = l ++ m := by
  unfold st3
  obtain ⟨m1, e1⟩ := ad_pre l (N t 8)
  obtain ⟨m2, e2⟩ := ad_pre (ad l (N t 8)) (N t 11)
  obtain ⟨m3, e3⟩ := ad_pre (ad (ad l (N t 8)) (N t 11)) (N t 15)
  exact ⟨m1 ++ m2 ++ m3, by rw [e3, e2, e1]; simp⟩
/-- what is found is closed under the links -/
theorem fd_closed (n : Nat) : ∀ (i : Nat) (l l2 : List Nat), n + i = 25 → l.length ≤ 24 → (∀ k t w u, k < i → l[k]? = some t → (w = 8 ∨ w = 11 ∨ w = 15) → N t w = some u → u ∈ l) → fd N n i l = some l2 → l2.length ≤ 24 ∧ ∀ t w u, t ∈ l2 → (w = 8 ∨ w = 11 ∨ w = 15) → N t w = some u → u ∈ l2 := by
  induction n with
  | zero =>
    intro i l l2 hn hl hc h
    have h : some l = some l2 := h
    cases h
    refine ⟨hl, fun t w u ht hw hu => ?_⟩
    obtain ⟨k, hk, e⟩ := List.getElem_of_mem ht
    exact hc k t w u (by omega) (by rw [List.getElem?_eq_getElem hk, e]) hw hu
  | succ n ih =>
    intro i l l2 hn hl hc h
    cases e : l[i]? with
    | none =>
      have hle : l.length ≤ i := List.getElem?_eq_none_iff.mp e
      rw [fd_end hle] at h
      cases h
      refine ⟨hl, fun t w u ht hw hu => ?_⟩
      obtain ⟨k, hk, e⟩ := List.getElem_of_mem ht
      exact hc k t w u (by omega) (by rw [List.getElem?_eq_getElem hk, e]) hw hu
    | some t =>
      by_cases hlen : (st3 N l t).length ≤ 24
      · rw [fd_step e hlen] at h
        refine ih (i + 1) _ l2 (by omega) hlen (fun k t2 w u hk ht2 hw hu => ?_) h
        obtain ⟨m, em⟩ := st3_pre (N := N) l t
        have hil := (List.getElem?_eq_some_iff.mp e).1
        have ht3 : l[k]? = some t2 := by
          rw [em, List.getElem?_append_left (by omega)] at ht2
          exact ht2
        by_cases ek : k = i
        · subst ek
          rw [e] at ht3
          cases ht3
          exact st3_sub.2 w u hw hu
        · exact st3_sub.1 u (hc k t2 w u (by omega) ht3 hw hu)
      · rw [fd_over e hlen] at h
        cases h
theorem nbr_map (hinj : ∀ a b, A a → A b → rho a = rho b → a = b) {l : List Nat} {t : Nat} {no no2 : Int32} (hl : ∀ t ∈ l, A t) (ht : t ∈ l) : nbr no (l.map rho) (rho t) = nbr no2 l t := by
  have hi : l.idxOf t < l.length := List.idxOf_lt_length_iff.mpr ht
  have e1 : l[l.idxOf t]? = some t := by rw [List.getElem?_eq_getElem hi]; simp
  have hfirst : ∀ j, j < l.idxOf t → ¬ l[j]? = some t := fun j hj h => by
    have h4 := List.not_of_lt_findIdx (p := (· == t)) (xs := l) (i := j) hj
    obtain ⟨h5, h6⟩ := List.getElem?_eq_some_iff.mp h
    simp [h6] at h4
  rw [nbr_at (no := no2) e1 hfirst, nbr_at (no := no) (l := l.map rho) (t := rho t) (i := l.idxOf t) (by rw [List.getElem?_map, e1]; rfl) (fun j hj h => ?_)]
  rw [List.getElem?_map] at h
  cases ej : l[j]? with
  | none => rw [ej] at h; cases h
  | some u =>
    rw [ej] at h
    have h : some (rho u) = some (rho t) := h
    injection h with h
    have := hinj u t (hl u (List.mem_of_getElem? ej)) (hl t ht) h
    exact hfirst j hj (by rw [ej, this])
theorem rowL_congr {k : Int32} {m : Nat} {g g2 : Nat → Int32} (h : ∀ i, i < m → g i = g2 i) : rowL k m g = rowL k m g2 := by
  unfold rowL
  congr 1
  apply List.map_congr_left
  intro i hi
  rw [h i (List.mem_range.mp hi)]
end MAPS
theorem gff_v {D : Nat → Option Int64} {R : Option (Nat × (Nat → Int64))} {k : Int32} {j : Nat} (h9 : ¬ j = 9) : gff D R k j = (match D j with
  | none => []
  | some v => [(k, Int32.ofNat j, v)]) := by
  unfold gff
  rw [if_neg h9]
  cases D j <;> rfl
theorem lff_gff {nb : Nat → Int32} {V : Nat → Int64} {N : Int → Option Nat} {R : Option (Nat × (Nat → Int32))} {k : Int32} {j : Nat} : lff nb V N R k j = gff (fun j => if j = 8 ∨ j = 11 ∨ j = 15 then (N (j : Int)).map (fun u => (nb u).toInt64) else if V j = 0 then none else some (V j)) (R.map (fun r => (r.1, fun i => (r.2 i).toInt64))) k j := by
  by_cases h9 : j = 9
  · have hL : lff nb V N R k j = (match R with
      | none => []
      | some r => rowL k r.1 r.2) := by
      unfold lff
      rw [if_neg (by omega), if_pos h9]
      cases R <;> rfl
    have hR : ∀ (D : Nat → Option Int64) (Q : Option (Nat × (Nat → Int64))), gff D Q k j = (match Q with
      | none => []
      | some r => (k, 9, (Int32.ofNat r.1).toInt64) :: (List.range r.1).map (fun i => (k, 100 + Int32.ofNat i, r.2 i))) := fun D Q => by
      unfold gff
      rw [if_pos h9]
      cases Q <;> rfl
    rw [hL, hR]
    cases R <;> rfl
  · by_cases hlk : j = 8 ∨ j = 11 ∨ j = 15
    · have hL : lff nb V N R k j = (match N (j : Int) with
        | none => []
        | some u => [(k, Int32.ofNat j, (nb u).toInt64)]) := by
        unfold lff
        rw [if_pos hlk]
        cases N (j : Int) <;> rfl
      rw [hL, gff_v h9, if_pos hlk]
      cases N (j : Int) <;> rfl
    · have hL : lff nb V N R k j = if V j = 0 then [] else [(k, Int32.ofNat j, V j)] := by
        unfold lff
        rw [if_neg hlk, if_neg h9]
      rw [hL, gff_v h9, if_neg hlk]
      by_cases hv : V j = 0
      · rw [if_pos hv, if_pos hv]
      · rw [if_neg hv, if_neg hv]
section TIEL
variable {kT kI kJ : ClassId} {K : Nat → Nat} {L : List Nat} {f f2 : Nat → va_E} {h : Nat} {fS fC : Nat → Int32} {fF : Nat → Int64} {fR fW : Nat → Int32} {A : Nat → Prop} {rho : Nat → Nat} {s t : Int32} {ow : Nat → Nat} {ll : List (Int32 × Int32 × Int64)} {pa : Int32}
theorem tie_tlS (hT : TIE K L f h fS fC fF fR fW A rho) {o : Nat} (ho : A o) : tlS (-1) (g_cn f) (g_vl f) (g_lk f) (g_rw f) (rho o) = tlS (-4) fC (r_vl fC fF) (r_lk fC fF) (r_rw fC fR fW) o := by
  have hinj := hT.2.2.2.2
  have hN : ∀ a w, A a → g_lk f (rho a) w = (r_lk fC fF a w).map rho := fun a w ha => hT.lk ha w
  have hcl : ∀ a w t, A a → r_lk fC fF a w = some t → A t := fun a w t ha ht => (hT.2.2.2.1 a w t ha ht).1
  obtain ⟨m1, m2⟩ := fd_map hinj hN hcl 25 0 [o] (fun t ht => by rw [List.mem_singleton.mp ht]; exact ho)
  have m1 : fd (g_lk f) 25 0 [rho o] = (fd (r_lk fC fF) 25 0 [o]).map (List.map rho) := m1
  unfold tlS
  rw [m1]
  cases e : fd (r_lk fC fF) 25 0 [o] with
  | none => rfl
  | some l =>
    have hA := m2 l e
    obtain ⟨c1, c2⟩ := fd_closed 25 0 [o] l rfl (by simp) (fun k t w u hk => by omega) e
    have key : lall (tls (-1) (g_cn f) (g_vl f) (g_lk f) (g_rw f) (l.map rho)) (l.map rho).length = lall (tls (-4) fC (r_vl fC fF) (r_lk fC fF) (r_rw fC fR fW) l) l.length := by
      rw [List.length_map]
      refine lall_congr _ (fun k hk => ?_)
      have ek : (l.map rho).getD k 0 = rho (l.getD k 0) := by
        rw [List.getD_eq_getElem?_getD, List.getElem?_map, List.getD_eq_getElem?_getD, List.getElem?_eq_getElem hk]
        rfl
      have hm : l.getD k 0 ∈ l := by
        rw [List.getD_eq_getElem?_getD, List.getElem?_eq_getElem hk]
        exact List.getElem_mem hk
      have ha := hA _ hm
      unfold tls
      rw [ek]
      generalize l.getD k 0 = a at ha hm
      rw [(hT.cn ha).1, lob_all, lob_all]
      refine congrArg (fun q => (Int32.ofNat k, (-1 : Int32), (fC a).toInt64) :: q) (lall_congr 17 (fun j hj => ?_))
      unfold lff
      by_cases hl : j = 8 ∨ j = 11 ∨ j = 15
      · rw [if_pos hl, if_pos hl, hN a _ ha]
        cases el : r_lk fC fF a (j : Int) with
        | none => rfl
        | some u =>
          show [(Int32.ofNat k, Int32.ofNat j, (nbr (-1) (l.map rho) (rho u)).toInt64)] = [(Int32.ofNat k, Int32.ofNat j, (nbr (-4) l u).toInt64)]
          rw [nbr_map hinj (no2 := -4) hA (c2 a (j : Int) u hm (by omega) el)]
      · rw [if_neg hl, if_neg hl]
        by_cases h9 : j = 9
        · rw [if_pos h9, if_pos h9]
          rcases hT.rw ha with ⟨e1, e2⟩ | ⟨m, g, g2, e1, e2, e3⟩
          · rw [e1, e2]
          · rw [e1, e2]
            exact rowL_congr e3
        · rw [if_neg h9, if_neg h9, hT.vl ha hj (by unfold lkf; exact hl) h9]
    show (if (lall _ (l.map rho).length).length ≤ 300 then _ else _) = _
    rw [key]
theorem wf_tlS (hrR : rgR fR) (hT : TIE K L f h fS fC fF fR fW A rho) {o : Nat} (ho : A o) {l : List (Int32 × Int32 × Int64)} (hl : tlS (-4) fC (r_vl fC fF) (r_lk fC fF) (r_rw fC fR fW) o = some l) : WF l := by
  have hcl : ∀ a w t, A a → r_lk fC fF a w = some t → A t := fun a w t ha ht => (hT.2.2.2.1 a w t ha ht).1
  obtain ⟨-, m2⟩ := fd_map hT.2.2.2.2 (fun a w ha => hT.lk ha w) hcl 25 0 [o] (fun t ht => by rw [List.mem_singleton.mp ht]; exact ho)
  unfold tlS at hl
  cases e : fd (r_lk fC fF) 25 0 [o] with
  | none => rw [e] at hl; cases hl
  | some lf =>
    rw [e] at hl
    have hA := m2 lf e
    obtain ⟨c1, c2⟩ := fd_closed 25 0 [o] lf rfl (by simp) (fun k t w u hk => by omega) e
    have hl : (if (lall (tls (-4) fC (r_vl fC fF) (r_lk fC fF) (r_rw fC fR fW) lf) lf.length).length ≤ 300 then some (lall (tls (-4) fC (r_vl fC fF) (r_lk fC fF) (r_rw fC fR fW) lf) lf.length) else none) = some l := hl
    split at hl
    · cases hl
      refine ⟨lf.length, fun k => fC (lf.getD k 0), fun k j => if j = 8 ∨ j = 11 ∨ j = 15 then (r_lk fC fF (lf.getD k 0) (j : Int)).map (fun u => (nbr (-4) lf u).toInt64) else if r_vl fC fF (lf.getD k 0) j = 0 then none else some (r_vl fC fF (lf.getD k 0) j), fun k => (r_rw fC fR fW (lf.getD k 0)).map (fun r => (r.1, fun i => (r.2 i).toInt64)), ⟨c1, fun k hk => ?_⟩, lall_congr _ (fun k hk => ?_)⟩
      · have hm : lf.getD k 0 ∈ lf := by
          rw [List.getD_eq_getElem?_getD, List.getElem?_eq_getElem hk]
          exact List.getElem_mem hk
        have ha := hA _ hm
        have hlt := (hT.2.2.1 _ ha).1
        dsimp only
        generalize lf.getD k 0 = a at ha hm hlt ⊢
        refine ⟨(hT.cn ha).2, fun j hj hn h9 => ?_, fun r hr => ?_⟩
        · by_cases hlk : j = 8 ∨ j = 11 ∨ j = 15
          · simp only [if_pos hlk] at hn
            cases el : r_lk fC fF a (j : Int) with
            | none => rw [el] at hn; exact absurd rfl hn
            | some u => exact (r_lk_in el).1.2.1
          · simp only [if_neg hlk] at hn
            by_cases hh : hs (fC a).toInt (j : Int) = true
            · exact hh
            · rw [r_vl_no hh, if_pos rfl] at hn
              exact absurd rfl hn
        · unfold r_rw at hr
          have hb := hrR a hlt
          by_cases hp : hs (fC a).toInt 9 = true ∧ ¬ (fR a).toInt = -1
          · rw [if_pos hp] at hr
            cases hr
            have h9 := hs_iff.mp hp.1
            have hc := (hT.cn ha).2
            refine ⟨by omega, ?_⟩
            show (fR a).toInt.toNat ≤ 20
            omega
          · rw [if_neg hp] at hr
            cases hr
      · unfold tls sbl
        rw [lob_all, lob_all]
        exact congrArg (fun q => (Int32.ofNat k, (-1 : Int32), (fC (lf.getD k 0)).toInt64) :: q) (lall_congr 17 (fun j hj => lff_gff))
    · cases hl
end TIEL


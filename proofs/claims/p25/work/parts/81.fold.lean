-- CELLS TOLD ONE BY ONE, as a pool
section FOLD
variable {A : Nat → Prop} {K : Nat → Nat} {L : List Nat} {f : Nat → va_E} {kT kI kJ kZ : ClassId}
theorem wd_tail {y : Nat × va_E} {ws : va_W} (h : va_D A (y :: ws)) : va_D A ws := ⟨fun i j p q hi hj e => Nat.succ.inj (h.1 (i + 1) (j + 1) p q hi hj e), fun k q hk => h.2 (k + 1) q hk⟩
theorem pool_mk : ∀ (ws : List (Nat × va_E × Nat)), va_D A (ws.map (fun w => (w.1, w.2.1))) → ∃ (K : Nat → Nat) (L : List Nat) (f : Nat → va_E), va_pl L f = ws.map (fun w => (w.1, w.2.1)) ∧ (∀ w ∈ ws, isr K L w.2.2 w.1 ∧ f w.1 = w.2.1) ∧ ∀ a ∈ L, ∃ w ∈ ws, a = w.1
  | [], _ => ⟨fun _ => 0, [], fun _ => .inr (0, []), rfl, fun _ h => absurd h List.not_mem_nil, fun _ h => absurd h List.not_mem_nil⟩
  | w :: ws, hD => by
    obtain ⟨K, L, f, h1, h2, h3⟩ := pool_mk ws (wd_tail hD)
    have hn : ∀ v ∈ ws, v.1 ≠ w.1 := fun v hv e => by
      obtain ⟨i, hi⟩ := List.getElem?_of_mem (List.mem_map.mpr ⟨v, hv, rfl⟩ : (v.1, v.2.1) ∈ ws.map (fun w => (w.1, w.2.1)))
      have := hD.1 (i + 1) 0 _ _ hi rfl e
      omega
    have hq : w.1 ∉ L := fun h => by
      obtain ⟨v, hv, e⟩ := h3 _ h
      exact hn v hv e.symm
    refine ⟨va_up K w.1 w.2.2, w.1 :: L, va_up f w.1 w.2.1, ?_, fun v hv => ?_, fun a ha => ?_⟩
    · rw [← pl_cons hq, h1]
      rfl
    · rcases List.mem_cons.mp hv with e | hv
      · subst e
        exact ⟨isr.new, va_up_self _ _ _⟩
      · have := h2 v hv
        exact ⟨this.1.ext (EXT.new hq), (va_up_ne _ _ (hn v hv)).trans this.2⟩
    · rcases List.mem_cons.mp ha with e | ha
      · exact ⟨w, List.mem_cons_self, e⟩
      · obtain ⟨v, hv, e⟩ := h3 a ha
        exact ⟨v, List.mem_cons_of_mem _ hv, e⟩
theorem PI.mk {ws : List (Nat × va_E × Nat)} (h2 : ∀ w ∈ ws, isr K L w.2.2 w.1 ∧ f w.1 = w.2.1) (h3 : ∀ a ∈ L, ∃ w ∈ ws, a = w.1) (h : ∀ w ∈ ws, okc kT kI kJ K L w.2.2 w.2.1) : PI kT kI kJ K L f := fun a ha => by
  obtain ⟨w, hw, e⟩ := h3 a ha
  subst e
  rw [(h2 w hw).1.2, (h2 w hw).2]
  exact h w hw
theorem PR.mk {ws : List (Nat × va_E × Nat)} (h2 : ∀ w ∈ ws, isr K L w.2.2 w.1 ∧ f w.1 = w.2.1) (h3 : ∀ a ∈ L, ∃ w ∈ ws, a = w.1) (h : ∀ w ∈ ws, okr kI kJ kZ K L w.2.2 w.2.1) : PR kI kJ kZ K L f := fun a ha => by
  obtain ⟨w, hw, e⟩ := h3 a ha
  subst e
  rw [(h2 w hw).1.2, (h2 w hw).2]
  exact h w hw
theorem nd_inj : ∀ (ws : List (Nat × va_E × Nat)), (ws.map (fun w => w.2.2)).Nodup → ∀ w ∈ ws, ∀ v ∈ ws, w.2.2 = v.2.2 → w = v
  | [], _, _, h, _, _, _ => absurd h List.not_mem_nil
  | x :: ws, hn, w, hw, v, hv, e => by
    have h2 := List.nodup_cons.mp hn
    rcases List.mem_cons.mp hw with a | a <;> rcases List.mem_cons.mp hv with b | b
    · rw [a, b]
    · exact absurd (List.mem_map.mpr ⟨v, b, by rw [← e, a]⟩) h2.1
    · exact absurd (List.mem_map.mpr ⟨w, a, by rw [e, b]⟩) h2.1
    · exact nd_inj ws h2.2 w a v b e
theorem UN.mk {ws : List (Nat × va_E × Nat)} (h2 : ∀ w ∈ ws, isr K L w.2.2 w.1 ∧ f w.1 = w.2.1) (h3 : ∀ a ∈ L, ∃ w ∈ ws, a = w.1) (hn : (ws.map (fun w => w.2.2)).Nodup) : UN K L := fun a b ha hb e => by
  obtain ⟨w, hw, ea⟩ := h3 a ha
  obtain ⟨v, hv, eb⟩ := h3 b hb
  subst ea
  subst eb
  rw [(h2 w hw).1.2, (h2 v hv).1.2] at e
  rw [nd_inj ws hn w hw v hv e]
theorem ty_oneO {D : va_G} {cl : List vw_C} {tys : List (ClassId × FieldType)} {U : State} {a b : ClassId} {C : String} (hK : va_K D cl tys U) (i j : Nat) (hi : tys[i]? = some (a, .object C)) (hj : tys[j]? = some (b, .object C)) : a = b := by
  obtain ⟨_, _, _, _, _, h1⟩ := (hK.2 i _ hi).2
  obtain ⟨_, _, _, _, _, h2⟩ := (hK.2 j _ hj).2
  exact Option.some.inj (h1.symm.trans h2)
end FOLD
theorem gi_0 {fS fC : Nat → Int32} {fF : Nat → Int64} (h : ∀ j, j < 12 → fS j = -1) : GI fS fC fF 0 0 := ⟨fun _ => False, fun _ => 0, [], [], ⟨⟨fun j hj hs => hs (by rw [h j hj]; decide), fun _ _ h _ => h⟩, fun _ h => h.elim, fun _ _ h _ => h.elim, fun c l _ hs => by
  cases l with
  | nil => exact Nat.zero_le _
  | cons a l => exact (hs a List.mem_cons_self).1.elim⟩, Nat.le_refl _, Nat.le_refl _⟩

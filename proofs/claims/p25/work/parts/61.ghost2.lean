-- WHAT HOLDS WHAT in the reference: slots fS, classes fC, fields fF
def lkf (f : Nat) : Prop := f = 8 ∨ f = 11 ∨ f = 15
def hasP (c f : Int) : Prop := (c = 0 ∧ f < 10) ∨ (c = 1 ∧ f < 12) ∨ (c = 2 ∧ f < 14) ∨ (c = 3 ∧ (f = 14 ∨ f = 15)) ∨ (¬ c = 0 ∧ ¬ c = 1 ∧ ¬ c = 2 ∧ ¬ c = 3 ∧ f = 16)
def tgt (fF : Nat → Int64) (o f : Nat) : Nat := (fF (17 * o + f)).toInt.toNat
/-- the object o holds another through its field f -/
def lnk (fC : Nat → Int32) (fF : Nat → Int64) (o f : Nat) : Prop := lkf f ∧ hasP (fC o).toInt (f : Int) ∧ ¬ (fF (17 * o + f)).toInt = -1
/-- P holds of the slots' objects and goes along with what is held -/
def CL (fS fC : Nat → Int32) (fF : Nat → Int64) (P : Nat → Prop) : Prop := (∀ j, j < 12 → ¬ (fS j).toInt = -1 → P (fS j).toInt.toNat) ∧ ∀ o f, P o → lnk fC fF o f → P (tgt fF o f)
/-- z marks just what is held -/
def MK (fS fC : Nat → Int32) (fF : Nat → Int64) (z : Nat → Int32) : Prop := (∀ j, j < 12 → ¬ (fS j).toInt = -1 → z (fS j).toInt.toNat ≠ 0) ∧ (∀ o f, o < 6400 → z o ≠ 0 → lnk fC fF o f → z (tgt fF o f) ≠ 0) ∧ ∀ P : Nat → Prop, CL fS fC fF P → ∀ o, o < 6400 → z o ≠ 0 → P o
/-- A: what is alive; b: the batch of a place; E: the places and fields that link wrote; B: the places that ever were born -/
def GA (fS fC : Nat → Int32) (fF : Nat → Int64) (A : Nat → Prop) (b : Nat → Nat) (E : List (Nat × Nat)) (B : List Nat) : Prop := CL fS fC fF A ∧ (∀ o, A o → o < 6400 ∧ o ∈ B) ∧ (∀ o f, A o → lnk fC fF o f → (o, f) ∈ E ∨ b (tgt fF o f) = b o) ∧ ∀ (c : Nat) (l : List Nat), l.Nodup → (∀ o ∈ l, A o ∧ b o = c) → l.length ≤ 24
def GI (fS fC : Nat → Int32) (fF : Nat → Int64) (nE nB : Nat) : Prop := ∃ (A : Nat → Prop) (b : Nat → Nat) (E : List (Nat × Nat)) (B : List Nat), GA fS fC fF A b E B ∧ E.length ≤ nE ∧ B.length ≤ nB
section GHOST
variable {fS fC : Nat → Int32} {fF : Nat → Int64} {A : Nat → Prop} {b : Nat → Nat} {E : List (Nat × Nat)} {B : List Nat} {z : Nat → Int32} {nE nB : Nat}
/-- how many are held -/
theorem gi_count (h : GA fS fC fF A b E B) (hM : MK fS fC fF z) : cnt z 6400 ≤ B.length ∧ cnt z 6400 ≤ 24 * (12 + E.length) := by
  obtain ⟨hC, hB, hE, hb⟩ := h
  have hP : CL fS fC fF (fun o => A o ∧ ∃ t ∈ (List.range 12).map (fun j => (fS j).toInt.toNat) ++ E.map (fun p => tgt fF p.1 p.2), b o = b t) := by
    refine ⟨fun j hj hs => ⟨hC.1 j hj hs, _, List.mem_append_left _ (List.mem_map.mpr ⟨j, List.mem_range.mpr hj, rfl⟩), rfl⟩, fun o f hp hl => ?_⟩
    obtain ⟨ha, t, ht, e⟩ := hp
    refine ⟨hC.2 o f ha hl, ?_⟩
    rcases hE o f ha hl with h1 | h1
    · exact ⟨_, List.mem_append_right _ (List.mem_map.mpr ⟨(o, f), h1, rfl⟩), rfl⟩
    · exact ⟨t, ht, h1.trans e⟩
  have hm : ∀ o ∈ mrk z 6400, A o ∧ ∃ t ∈ (List.range 12).map (fun j => (fS j).toInt.toNat) ++ E.map (fun p => tgt fF p.1 p.2), b o = b t := fun o ho => hM.2.2 _ hP o (mrk_mem _ ho).1 (mrk_mem _ ho).2
  rw [← mrk_len z 6400]
  refine ⟨nd_len _ _ (mrk_nd z 6400) (fun o ho => (hB o (hm o ho).1).2), ?_⟩
  have h := nd_cover b _ (mrk z 6400) (mrk_nd z 6400) (fun o ho => (hm o ho).2) (fun c m hn hs => hb c m hn (fun o ho => ⟨(hm o (hs o ho).1).1, (hs o ho).2⟩))
  simpa using h
/-- what isn't held may be taken as dead -/
theorem ga_mark (hrS : rgS fS) (hrF : rgF fF) (h : GA fS fC fF A b E B) (hM : MK fS fC fF z) : GA fS fC fF (fun o => o < 6400 ∧ z o ≠ 0) b E B := by
  obtain ⟨hC, hB, hE, hb⟩ := h
  have hin : ∀ o, o < 6400 → z o ≠ 0 → A o := fun o h1 h2 => hM.2.2 A hC o h1 h2
  refine ⟨⟨fun j hj hs => ⟨?_, hM.1 j hj hs⟩, fun o f hp hl => ⟨?_, hM.2.1 o f hp.1 hp.2 hl⟩⟩, fun o ho => hB o (hin o ho.1 ho.2), fun o f ho hl => hE o f (hin o ho.1 ho.2) hl, fun c l hn hs => hb c l hn (fun o ho => ⟨hin o (hs o ho).1.1 (hs o ho).1.2, (hs o ho).2⟩)⟩
  · have := hrS j hj
    omega
  · have := hrF o f hp.1 hl.1
    have h3 := hl.2.2
    unfold tgt
    omega
/-- a slot gets what is held already, or nothing -/
theorem gi_slot {k : Nat} {v : Int32} (h : GI fS fC fF nE nB) (hv : ¬ v.toInt = -1 → ∀ A : Nat → Prop, CL fS fC fF A → A v.toInt.toNat) : GI (upd fS k v) fC fF nE nB := by
  obtain ⟨A, b, E, B, ⟨hC, hB, hE, hb⟩, h1, h2⟩ := h
  refine ⟨A, b, E, B, ⟨⟨fun j hj hs => ?_, hC.2⟩, hB, hE, hb⟩, h1, h2⟩
  by_cases e : j = k
  · subst e
    rw [pk_us] at hs ⊢
    exact hv hs A hC
  · rw [pk_un e] at hs ⊢
    exact hC.1 j hj hs
theorem lk_lt {f : Nat} (h : lkf f) : f < 17 := by
  unfold lkf at h
  omega
theorem idx_inj {o f o2 f2 : Nat} (hf : f < 17) (hf2 : f2 < 17) (h : 17 * o + f = 17 * o2 + f2) : o = o2 ∧ f = f2 := by omega
/-- a plain field is written -/
theorem gi_plain {k : Nat} {v : Int64} (h : GI fS fC fF nE nB) (hk : ∀ o f, lkf f → ¬ 17 * o + f = k) : GI fS fC (vp_updL fF k v) nE nB := by
  have e1 : ∀ o f, lkf f → vp_updL fF k v (17 * o + f) = fF (17 * o + f) := fun o f hf => pk_uLn (hk o f hf)
  have e2 : ∀ o f, lnk fC (vp_updL fF k v) o f → lnk fC fF o f ∧ tgt (vp_updL fF k v) o f = tgt fF o f := fun o f hl => by
    obtain ⟨l1, l2, l3⟩ := hl
    rw [e1 o f l1] at l3
    exact ⟨⟨l1, l2, l3⟩, by unfold tgt; rw [e1 o f l1]⟩
  obtain ⟨A, b, E, B, ⟨hC, hB, hE, hb⟩, h1, h2⟩ := h
  exact ⟨A, b, E, B, ⟨⟨hC.1, fun o f ho hl => by rw [(e2 o f hl).2]; exact hC.2 o f ho (e2 o f hl).1⟩, hB, fun o f ho hl => by rw [(e2 o f hl).2]; exact hE o f ho (e2 o f hl).1, hb⟩, h1, h2⟩
/-- link writes: one pair more -/
theorem gi_link {o f : Nat} {v : Int64} (h : GI fS fC fF nE nB) (hf : f < 17) (hv : ¬ v.toInt = -1 → ∀ A : Nat → Prop, CL fS fC fF A → A v.toInt.toNat) : GI fS fC (vp_updL fF (17 * o + f) v) (nE + 1) nB := by
  obtain ⟨A, b, E, B, ⟨hC, hB, hE, hb⟩, h1, h2⟩ := h
  have key : ∀ o2 f2, lnk fC (vp_updL fF (17 * o + f) v) o2 f2 → (o2 = o ∧ f2 = f ∧ ¬ v.toInt = -1 ∧ tgt (vp_updL fF (17 * o + f) v) o2 f2 = v.toInt.toNat) ∨ (lnk fC fF o2 f2 ∧ tgt (vp_updL fF (17 * o + f) v) o2 f2 = tgt fF o2 f2) := fun o2 f2 hl => by
    obtain ⟨l1, l2, l3⟩ := hl
    by_cases e : 17 * o2 + f2 = 17 * o + f
    · obtain ⟨a1, a2⟩ := idx_inj (lk_lt l1) hf e
      refine Or.inl ⟨a1, a2, ?_, ?_⟩
      · rw [e, pk_uLs] at l3; exact l3
      · unfold tgt; rw [e, pk_uLs]
    · rw [pk_uLn e] at l3
      exact Or.inr ⟨⟨l1, l2, l3⟩, by unfold tgt; rw [pk_uLn e]⟩
  refine ⟨A, b, (o, f) :: E, B, ⟨⟨hC.1, fun o2 f2 ho hl => ?_⟩, hB, fun o2 f2 ho hl => ?_, hb⟩, by simp only [List.length_cons]; omega, h2⟩
  · rcases key o2 f2 hl with ⟨-, -, a3, a4⟩ | ⟨a1, a2⟩
    · rw [a4]; exact hv a3 A hC
    · rw [a2]; exact hC.2 o2 f2 ho a1
  · rcases key o2 f2 hl with ⟨a1, a2, -, -⟩ | ⟨a1, a2⟩
    · left; rw [a1, a2]; exact List.mem_cons_self
    · rw [a2]
      rcases hE o2 f2 ho a1 with h | h
      · exact Or.inl (List.mem_cons_of_mem _ h)
      · exact Or.inr h
end GHOST


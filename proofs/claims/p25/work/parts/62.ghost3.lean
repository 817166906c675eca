section GHOST3
variable {fS fC : Nat → Int32} {fF : Nat → Int64} {A : Nat → Prop} {b : Nat → Nat} {E : List (Nat × Nat)} {B N : List Nat} {nE nB : Nat}
theorem ga_plain {k : Nat} {v : Int64} (h : GA fS fC fF A b E B) (hk : ∀ o f, lkf f → ¬ 17 * o + f = k) : GA fS fC (vp_updL fF k v) A b E B := by
  have e1 : ∀ o f, lkf f → vp_updL fF k v (17 * o + f) = fF (17 * o + f) := fun o f hf => pk_uLn (hk o f hf)
  have e2 : ∀ o f, lnk fC (vp_updL fF k v) o f → lnk fC fF o f ∧ tgt (vp_updL fF k v) o f = tgt fF o f := fun o f hl => by
    obtain ⟨l1, l2, l3⟩ := hl
    rw [e1 o f l1] at l3
    exact ⟨⟨l1, l2, l3⟩, by unfold tgt; rw [e1 o f l1]⟩
  obtain ⟨hC, hB, hE, hb⟩ := h
  exact ⟨⟨hC.1, fun o f ho hl => by rw [(e2 o f hl).2]; exact hC.2 o f ho (e2 o f hl).1⟩, hB, fun o f ho hl => by rw [(e2 o f hl).2]; exact hE o f ho (e2 o f hl).1, hb⟩
/-- a link within a batch -/
theorem ga_in {o f : Nat} {v : Int64} (h : GA fS fC fF A b E B) (hf : f < 17) (hv : A v.toInt.toNat ∧ b v.toInt.toNat = b o) : GA fS fC (vp_updL fF (17 * o + f) v) A b E B := by
  obtain ⟨hC, hB, hE, hb⟩ := h
  have key : ∀ o2 f2, lnk fC (vp_updL fF (17 * o + f) v) o2 f2 → (o2 = o ∧ tgt (vp_updL fF (17 * o + f) v) o2 f2 = v.toInt.toNat) ∨ (lnk fC fF o2 f2 ∧ tgt (vp_updL fF (17 * o + f) v) o2 f2 = tgt fF o2 f2) := fun o2 f2 hl => by
    obtain ⟨l1, l2, l3⟩ := hl
    by_cases e : 17 * o2 + f2 = 17 * o + f
    · exact Or.inl ⟨(idx_inj (lk_lt l1) hf e).1, by unfold tgt; rw [e, pk_uLs]⟩
    · rw [pk_uLn e] at l3
      exact Or.inr ⟨⟨l1, l2, l3⟩, by unfold tgt; rw [pk_uLn e]⟩
  refine ⟨⟨hC.1, fun o2 f2 ho hl => ?_⟩, hB, fun o2 f2 ho hl => ?_, hb⟩
  · rcases key o2 f2 hl with ⟨-, a2⟩ | ⟨a1, a2⟩
    · rw [a2]; exact hv.1
    · rw [a2]; exact hC.2 o2 f2 ho a1
  · rcases key o2 f2 hl with ⟨a1, a2⟩ | ⟨a1, a2⟩
    · rw [a2, a1]; exact Or.inr hv.2
    · rw [a2]; exact hE o2 f2 ho a1
theorem ga_slot {k : Nat} {v : Int32} (h : GA fS fC fF A b E B) (hv : ¬ v.toInt = -1 → A v.toInt.toNat) : GA (upd fS k v) fC fF A b E B := by
  obtain ⟨hC, hB, hE, hb⟩ := h
  refine ⟨⟨fun j hj hs => ?_, hC.2⟩, hB, hE, hb⟩
  by_cases e : j = k
  · subst e
    rw [pk_us] at hs ⊢
    exact hv hs
  · rw [pk_un e] at hs ⊢
    exact hC.1 j hj hs
/-- a batch in the making: its places N, beside what was alive -/
def GN (fS fC : Nat → Int32) (fF : Nat → Int64) (A : Nat → Prop) (b : Nat → Nat) (E : List (Nat × Nat)) (B N : List Nat) : Prop := GA fS fC fF (fun x => A x ∨ x ∈ N) (fun x => if x ∈ N then 0 else b x + 1) E (N ++ B) ∧ (∀ x ∈ N, ¬ A x) ∧ N.length ≤ 24
theorem gn_0 (h : GA fS fC fF A b E B) : GN fS fC fF A b E B [] := by
  obtain ⟨hC, hB, hE, hb⟩ := h
  refine ⟨⟨⟨fun j hj hs => Or.inl (hC.1 j hj hs), fun o f ho hl => ?_⟩, fun o ho => ?_, fun o f ho hl => ?_, fun c l hn hs => ?_⟩, fun x hx => absurd hx List.not_mem_nil, Nat.zero_le _⟩
  · rcases ho with ho | ho
    · exact Or.inl (hC.2 o f ho hl)
    · exact absurd ho List.not_mem_nil
  · rcases ho with ho | ho
    · exact hB o ho
    · exact absurd ho List.not_mem_nil
  · rcases ho with ho | ho
    · rcases hE o f ho hl with h | h
      · exact Or.inl h
      · right; simp [h]
    · exact absurd ho List.not_mem_nil
  · cases c with
    | zero =>
      cases l with
      | nil => exact Nat.zero_le _
      | cons a l =>
        have := (hs a List.mem_cons_self).2
        simp at this
    | succ c =>
      refine hb c l hn (fun o ho => ?_)
      have h := hs o ho
      rcases h.1 with h1 | h1
      · exact ⟨h1, by simpa using h.2⟩
      · exact absurd h1 List.not_mem_nil
/-- a birth -/
theorem gn_born {o : Nat} {c : Int32} {fG : Nat → Int64} (h : GN fS fC fF A b E B N) (ho : o < 6400) (hA : ¬ A o) (hN : o ∉ N) (hlen : N.length + 1 ≤ 24) (h1 : ∀ o2 f, lkf f → o2 ≠ o → fG (17 * o2 + f) = fF (17 * o2 + f)) (h2 : ∀ f, lkf f → (fG (17 * o + f)).toInt = -1) : GN fS (upd fC o c) fG A b E B (o :: N) := by
  obtain ⟨⟨hC, hB, hE, hb⟩, hd, -⟩ := h
  have key : ∀ x f, lnk (upd fC o c) fG x f → x ≠ o ∧ lnk fC fF x f ∧ tgt fG x f = tgt fF x f := fun x f hl => by
    obtain ⟨l1, l2, l3⟩ := hl
    have ne : x ≠ o := fun e => by
      subst e
      exact l3 (h2 f l1)
    rw [h1 x f l1 ne] at l3
    rw [pk_un ne] at l2
    exact ⟨ne, ⟨l1, l2, l3⟩, by unfold tgt; rw [h1 x f l1 ne]⟩
  have up : ∀ x, (A x ∨ x ∈ N) → (A x ∨ x ∈ o :: N) := fun x hx => hx.elim Or.inl (fun q => Or.inr (List.mem_cons_of_mem _ q))
  have dn : ∀ x, x ≠ o → (A x ∨ x ∈ o :: N) → (A x ∨ x ∈ N) := fun x ne hx => hx.elim Or.inl (fun q => (List.mem_cons.mp q).elim (fun e => absurd e ne) Or.inr)
  have nm : ∀ x, (A x ∨ x ∈ N) → x ≠ o := fun x hx e => by
    subst e
    exact hx.elim hA hN
  have bb : ∀ x, x ≠ o → (if x ∈ o :: N then 0 else b x + 1) = (if x ∈ N then 0 else b x + 1) := fun x ne => by
    by_cases hx : x ∈ N
    · rw [if_pos (List.mem_cons_of_mem _ hx), if_pos hx]
    · rw [if_neg (fun q => (List.mem_cons.mp q).elim ne hx), if_neg hx]
  refine ⟨⟨⟨fun j hj hs => up _ (hC.1 j hj hs), fun x f hx hl => ?_⟩, fun x hx => ?_, fun x f hx hl => ?_, fun d l hn hs => ?_⟩, fun x hx => ?_, by simpa using hlen⟩
  · obtain ⟨ne, hl2, e⟩ := key x f hl
    rw [e]
    exact up _ (hC.2 x f (dn x ne hx) hl2)
  · by_cases e : x = o
    · subst e
      exact ⟨ho, List.mem_append_left _ List.mem_cons_self⟩
    · have := hB x (dn x e hx)
      refine ⟨this.1, ?_⟩
      rcases List.mem_append.mp this.2 with q | q
      · exact List.mem_append_left _ (List.mem_cons_of_mem _ q)
      · exact List.mem_append_right _ q
  · obtain ⟨ne, hl2, e⟩ := key x f hl
    rw [e]
    rcases hE x f (dn x ne hx) hl2 with q | q
    · exact Or.inl q
    · right
      have nt := nm _ (hC.2 x f (dn x ne hx) hl2)
      show (if tgt fF x f ∈ o :: N then 0 else b (tgt fF x f) + 1) = (if x ∈ o :: N then 0 else b x + 1)
      rw [bb _ nt, bb _ ne]
      exact q
  · cases d with
    | zero =>
      have : l.length ≤ (o :: N).length := nd_len l (o :: N) hn (fun x hx => by
        have h := (hs x hx).2
        by_cases q : x ∈ o :: N
        · exact q
        · simp [q] at h)
      simp only [List.length_cons] at this
      omega
    | succ d =>
      refine hb (d + 1) l hn (fun x hx => ?_)
      have h := hs x hx
      have ne : x ≠ o := fun e => by
        have := h.2
        simp [e] at this
      exact ⟨dn x ne h.1, (bb x ne).symm.trans h.2⟩
  · rcases List.mem_cons.mp hx with e | q
    · subst e; exact hA
    · exact hd x q
theorem gn_end (h : GN fS fC fF A b E B N) (hE : E.length ≤ nE) (hB : B.length ≤ nB) : GI fS fC fF nE (nB + N.length) := ⟨_, _, _, _, h.1, hE, by simp only [List.length_append]; omega⟩
end GHOST3


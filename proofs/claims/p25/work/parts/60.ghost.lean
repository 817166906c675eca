-- COUNTING what is held
def cnt (z : Nat → Int32) : Nat → Nat
  | 0 => 0
  | n + 1 => cnt z n + (if z n = 0 then 0 else 1)
theorem cnt_le (z : Nat → Int32) : ∀ n, cnt z n ≤ n
  | 0 => Nat.le_refl _
  | n + 1 => by
    have := cnt_le z n
    show cnt z n + _ ≤ n + 1
    split <;> omega
theorem cnt_lt {z : Nat → Int32} {k : Nat} (hk : z k = 0) : ∀ n, k < n → cnt z n < n
  | 0, h => absurd h (Nat.not_lt_zero _)
  | n + 1, h => by
    show cnt z n + _ < n + 1
    by_cases e : k = n
    · subst e
      rw [if_pos hk]
      have := cnt_le z k
      omega
    · have := cnt_lt hk n (by omega)
      split <;> omega
theorem cnt_congr {z y : Nat → Int32} : ∀ n, (∀ j, j < n → z j = y j) → cnt z n = cnt y n
  | 0, _ => rfl
  | n + 1, h => by
    show cnt z n + _ = cnt y n + _
    rw [cnt_congr n (fun j hj => h j (by omega)), h n (by omega)]
theorem cnt_upd {z : Nat → Int32} {k : Nat} {v : Int32} (hk : z k = 0) (hv : v ≠ 0) : ∀ n, k < n → cnt (upd z k v) n = cnt z n + 1
  | 0, h => absurd h (Nat.not_lt_zero _)
  | n + 1, h => by
    show cnt (upd z k v) n + _ = cnt z n + _ + 1
    by_cases e : k = n
    · subst e
      rw [pk_us, if_neg hv, if_pos hk, cnt_congr (z := upd z k v) (y := z) k (fun j hj => pk_un (by omega))]
    · rw [cnt_upd hk hv n (by omega), pk_un (fun q => e q.symm)]
      omega
theorem cnt_free {z : Nat → Int32} {n : Nat} (h : cnt z n < n) : ∃ k, k < n ∧ z k = 0 := by
  induction n with
  | zero => exact absurd h (Nat.not_lt_zero _)
  | succ n ih =>
    by_cases e : z n = 0
    · exact ⟨n, by omega, e⟩
    · have h : cnt z n + (if z n = 0 then 0 else 1) < n + 1 := h
      rw [if_neg e] at h
      obtain ⟨k, h1, h2⟩ := ih (by omega)
      exact ⟨k, by omega, h2⟩
/-- the list of what is marked -/
def mrk (z : Nat → Int32) : Nat → List Nat
  | 0 => []
  | n + 1 => if z n = 0 then mrk z n else n :: mrk z n
theorem mrk_len (z : Nat → Int32) : ∀ n, (mrk z n).length = cnt z n
  | 0 => rfl
  | n + 1 => by
    show (if z n = 0 then mrk z n else n :: mrk z n).length = cnt z n + (if z n = 0 then 0 else 1)
    split
    · rw [mrk_len z n, Nat.add_zero]
    · rw [List.length_cons, mrk_len z n]
theorem mrk_mem {z : Nat → Int32} {o : Nat} : ∀ n, o ∈ mrk z n → o < n ∧ z o ≠ 0
  | 0, h => absurd h List.not_mem_nil
  | n + 1, h => by
    have h : o ∈ (if z n = 0 then mrk z n else n :: mrk z n) := h
    split at h
    · have := mrk_mem n h
      exact ⟨by omega, this.2⟩
    · rename_i hz
      rcases List.mem_cons.mp h with e | h
      · subst e
        exact ⟨by omega, hz⟩
      · have := mrk_mem n h
        exact ⟨by omega, this.2⟩
theorem mrk_nd (z : Nat → Int32) : ∀ n, (mrk z n).Nodup
  | 0 => List.nodup_nil
  | n + 1 => by
    show (if z n = 0 then mrk z n else n :: mrk z n).Nodup
    split
    · exact mrk_nd z n
    · exact List.nodup_cons.mpr ⟨fun h => by have := (mrk_mem n h).1; omega, mrk_nd z n⟩
/-- a list without repeats among another's members is no longer -/
theorem nd_len : ∀ (l B : List Nat), l.Nodup → (∀ o ∈ l, o ∈ B) → l.length ≤ B.length
  | [], _, _, _ => Nat.zero_le _
  | a :: l, B, hn, hs => by
    have ha := hs a List.mem_cons_self
    have hn2 := List.nodup_cons.mp hn
    have h := nd_len l (B.erase a) hn2.2 (fun o ho => by
      have ne : o ≠ a := fun e => hn2.1 (by rw [← e]; exact ho)
      exact (List.mem_erase_of_ne ne).mpr (hs o (List.mem_cons_of_mem _ ho)))
    rw [List.length_erase_of_mem ha] at h
    have := List.length_pos_of_mem ha
    simp only [List.length_cons]
    omega
/-- a cover: every member of l is of the batch of one of T, and no batch has more than 24 in l -/
theorem nd_cover (b : Nat → Nat) : ∀ (T l : List Nat), l.Nodup → (∀ o ∈ l, ∃ t ∈ T, b o = b t) → (∀ (c : Nat) (m : List Nat), m.Nodup → (∀ o ∈ m, o ∈ l ∧ b o = c) → m.length ≤ 24) → l.length ≤ 24 * T.length
  | [], l, _, hc, _ => by
    cases l with
    | nil => exact Nat.zero_le _
    | cons a l =>
      obtain ⟨t, ht, _⟩ := hc a List.mem_cons_self
      exact absurd ht List.not_mem_nil
  | t :: T, l, hn, hc, hb => by
    have h1 : (l.filter (fun o => b o == b t)).length ≤ 24 := hb (b t) _ (hn.filter _) (fun o ho => by
      have := List.mem_filter.mp ho
      exact ⟨this.1, by simpa using this.2⟩)
    have h2 := nd_cover b T (l.filter (fun o => !(b o == b t))) (hn.filter _) (fun o ho => by
      have h := List.mem_filter.mp ho
      obtain ⟨u, hu, e⟩ := hc o h.1
      rcases List.mem_cons.mp hu with e2 | hu
      · subst e2
        have h3 := h.2
        simp [e] at h3
      · exact ⟨u, hu, e⟩) (fun c m hm hs => hb c m hm (fun o ho => ⟨(List.mem_filter.mp (hs o ho).1).1, (hs o ho).2⟩))
    have h3 : l.length = (l.filter (fun o => b o == b t)).length + (l.filter (fun o => !(b o == b t))).length := by
      clear h1 h2 hb hc hn
      induction l with
      | nil => rfl
      | cons a l ih =>
        by_cases e : b a == b t
        · simp [e, ih]; omega
        · simp [e, ih]; omega
    simp only [List.length_cons]
    omega


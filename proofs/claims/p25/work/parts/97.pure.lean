-- THE PURE PICTURE: what is found, leaves
theorem oN_toInt {n : Nat} (h : n < 2147483648) : (Int32.ofNat n).toInt = (n : Int) := nI_toInt (n := n) (by omega)
def LSv (z : Int32) (n d : Nat → Int32) (v : Nat → Int64) (l : List (Int32 × Int32 × Int64)) : Prop := z.toInt = (l.length : Int) ∧ ∀ i a b c, l[i]? = some (a, b, c) → n i = a ∧ d i = b ∧ v i = c
section LSVS
variable {z z2 : Int32} {n d : Nat → Int32} {v : Nat → Int64} {l l2 : List (Int32 × Int32 × Int64)}
theorem LSv.nil (h : z.toInt = 0) : LSv z n d v [] := ⟨h, fun i a b c e => by simp at e⟩
theorem LSv.push {a b : Int32} {c : Int64} (h : LSv z n d v l) (e : z2.toInt = z.toInt + 1) : LSv z2 (upd n (Int32.toNatClampNeg z) a) (upd d (Int32.toNatClampNeg z) b) (vp_updL v (Int32.toNatClampNeg z) c) (l ++ [(a, b, c)]) := by
  have hz := clamp_int (i := z) (by have := h.1; omega)
  have hk : Int32.toNatClampNeg z = l.length := by have := h.1; omega
  refine ⟨by rw [List.length_append]; have := h.1; simp; omega, fun i a2 b2 c2 e2 => ?_⟩
  rw [hk]
  rcases Nat.lt_trichotomy i l.length with hi | hi | hi
  · rw [List.getElem?_append_left hi] at e2
    rw [pk_un (by omega), pk_un (by omega), pk_uLn (by omega)]
    exact h.2 i a2 b2 c2 e2
  · subst hi
    rw [List.getElem?_append_right (Nat.le_refl _), Nat.sub_self] at e2
    simp at e2
    obtain ⟨rfl, rfl, rfl⟩ := e2
    exact ⟨pk_us, pk_us, pk_uLs⟩
  · rw [List.getElem?_eq_none (by simp; omega)] at e2
    cases e2
theorem LSv.at (h : LSv z n d v l) {k : Int32} (h0 : 0 ≤ k.toInt) (h1 : k.toInt < z.toInt) : l[Int32.toNatClampNeg k]? = some (n (Int32.toNatClampNeg k), d (Int32.toNatClampNeg k), v (Int32.toNatClampNeg k)) := by
  have hk := clamp_int h0
  have hl : Int32.toNatClampNeg k < l.length := by have := h.1; omega
  have e := List.getElem?_eq_getElem hl
  obtain ⟨h1, h2, h3⟩ := h.2 _ _ _ _ e
  rw [e, h1, h2, h3]
  rfl
end LSVS
/-- one more found, if it is new -/
def ad (l : List Nat) (o : Option Nat) : List Nat := match o with
  | none => l
  | some t => if t ∈ l then l else l ++ [t]
def st3 (N : Nat → Int → Option Nat) (l : List Nat) (t : Nat) : List Nat := ad (ad (ad l (N t 8)) (N t 11)) (N t 15)
def fd (N : Nat → Int → Option Nat) : Nat → Nat → List Nat → Option (List Nat)
  | 0, _, l => some l
  | n + 1, i, l => match l[i]? with
    | none => some l
    | some t => if (st3 N l t).length ≤ 24 then fd N n (i + 1) (st3 N l t) else none
/-- the number of what is found -/
def nbr (no : Int32) (l : List Nat) (t : Nat) : Int32 := if t ∈ l then Int32.ofNat (l.idxOf t) else no
def rowL (k : Int32) (m : Nat) (g : Nat → Int32) : List (Int32 × Int32 × Int64) := (k, 9, (Int32.ofNat m).toInt64) :: (List.range m).map (fun i => (k, 100 + Int32.ofNat i, (g i).toInt64))
/-- the leaves of one field -/
def lff (nb : Nat → Int32) (V : Nat → Int64) (N : Int → Option Nat) (R : Option (Nat × (Nat → Int32))) (k : Int32) (j : Nat) : List (Int32 × Int32 × Int64) := if j = 8 ∨ j = 11 ∨ j = 15 then (match N (j : Int) with
  | none => []
  | some u => [(k, Int32.ofNat j, (nb u).toInt64)]) else if j = 9 then (match R with
  | none => []
  | some r => rowL k r.1 r.2) else if V j = 0 then [] else [(k, Int32.ofNat j, V j)]
/-- the leaves of the fields below j -/
def lfs (F : Nat → List (Int32 × Int32 × Int64)) : Nat → List (Int32 × Int32 × Int64)
  | 0 => []
  | j + 1 => lfs F j ++ F j
def lob (c : Int32) (F : Nat → List (Int32 × Int32 × Int64)) (k : Int32) : List (Int32 × Int32 × Int64) := (k, -1, c.toInt64) :: lfs F 17
/-- the leaves of the objects below k -/
def lall (O : Nat → List (Int32 × Int32 × Int64)) : Nat → List (Int32 × Int32 × Int64)
  | 0 => []
  | k + 1 => lall O k ++ O k
section ADS
variable {l : List Nat} {o : Option Nat} {t : Nat} {N : Nat → Int → Option Nat}
theorem ad_len (l : List Nat) (o : Option Nat) : l.length ≤ (ad l o).length := by
  unfold ad
  split
  · exact Nat.le_refl _
  · split
    · exact Nat.le_refl _
    · simp
theorem ad_pre (l : List Nat) (o : Option Nat) : ∃ m, ad l o = l ++ m := by
  unfold ad
  split
  · exact ⟨[], by simp⟩
  · split
    · exact ⟨[], by simp⟩
    · exact ⟨_, rfl⟩
theorem ad_new (h : t ∉ l) : ad l (some t) = l ++ [t] := by unfold ad; simp [h]
theorem ad_old (h : t ∈ l) : ad l (some t) = l := by unfold ad; simp [h]
theorem ad_none : ad l none = l := rfl
theorem st3_over1 (h : 24 < (ad l (N t 8)).length) : ¬ (st3 N l t).length ≤ 24 := by
  have h1 := ad_len (ad l (N t 8)) (N t 11)
  have h2 := ad_len (ad (ad l (N t 8)) (N t 11)) (N t 15)
  unfold st3
  omega
theorem st3_over2 (h : 24 < (ad (ad l (N t 8)) (N t 11)).length) : ¬ (st3 N l t).length ≤ 24 := by
  have h2 := ad_len (ad (ad l (N t 8)) (N t 11)) (N t 15)
  unfold st3
  omega
theorem fd_step {n i : Nat} (h : l[i]? = some t) (hs : (st3 N l t).length ≤ 24) : fd N (n + 1) i l = fd N n (i + 1) (st3 N l t) := by
  show (match l[i]? with
    | none => some l
    | some t => if (st3 N l t).length ≤ 24 then fd N n (i + 1) (st3 N l t) else none) = _
  rw [h]
  exact if_pos hs
theorem fd_over {n i : Nat} (h : l[i]? = some t) (hs : ¬ (st3 N l t).length ≤ 24) : fd N (n + 1) i l = none := by
  show (match l[i]? with
    | none => some l
    | some t => if (st3 N l t).length ≤ 24 then fd N n (i + 1) (st3 N l t) else none) = _
  rw [h]
  exact if_neg hs
theorem fd_end {n i : Nat} (h : l.length ≤ i) : fd N n i l = some l := by
  cases n with
  | zero => rfl
  | succ n =>
    show (match l[i]? with
    | none => some l
    | some t => if (st3 N l t).length ≤ 24 then fd N n (i + 1) (st3 N l t) else none) = _
    rw [List.getElem?_eq_none h]
theorem nbr_at {no : Int32} {i : Nat} (h : l[i]? = some t) (hn : ∀ j, j < i → ¬ l[j]? = some t) : nbr no l t = Int32.ofNat i := by
  have hm : t ∈ l := List.mem_of_getElem? h
  have hi := (List.getElem?_eq_some_iff.mp h)
  unfold nbr
  rw [if_pos hm]
  congr 1
  have h1 : l.idxOf t < l.length := List.idxOf_lt_length_iff.mpr hm
  have h2 : l[l.idxOf t]? = some t := by rw [List.getElem?_eq_getElem h1]; simp
  rcases Nat.lt_trichotomy (l.idxOf t) i with h3 | h3 | h3
  · exact absurd h2 (hn _ h3)
  · exact h3
  · have h4 := List.not_of_lt_findIdx (p := (· == t)) (xs := l) (i := i) h3
    simp [hi.2] at h4
theorem nbr_no {no : Int32} (hn : ∀ j, j < l.length → ¬ l[j]? = some t) : nbr no l t = no := by
  unfold nbr
  rw [if_neg]
  intro hm
  obtain ⟨i, hi, e⟩ := List.getElem_of_mem hm
  exact hn i hi (by rw [List.getElem?_eq_getElem hi, e])
end ADS


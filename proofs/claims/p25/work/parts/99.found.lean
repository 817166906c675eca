-- WHAT IS FOUND: the list l stands in the row found
def FS (f : Nat → va_E) (h : Nat) (l : List Nat) : Prop := (cI (f h) 6).toInt = (l.length : Int) ∧ ∀ i t, l[i]? = some t → aR (f (cP (f h) 5)) i = some t
/-- the object h holds the same rows and lists -/
def PHK (f f2 : Nat → va_E) (h : Nat) : Prop := cP (f2 h) 0 = cP (f h) 0 ∧ cI (f2 h) 1 = cI (f h) 1 ∧ cP (f2 h) 2 = cP (f h) 2 ∧ cP (f2 h) 3 = cP (f h) 3 ∧ cP (f2 h) 4 = cP (f h) 4 ∧ cP (f2 h) 5 = cP (f h) 5 ∧ cP (f2 h) 7 = cP (f h) 7 ∧ cI (f2 h) 8 = cI (f h) 8
def FF (K : Nat → Nat) (L : List Nat) (h : Nat) (f f2 : Nat → va_E) : Prop := FR (sK [2, 6]) K L f f2 ∧ PHK f f2 h
/-- only the list y with its rows, what is found, and nothing else -/
def TF (K : Nat → Nat) (L : List Nat) (ow : Nat → Nat) (y h : Nat) (f f2 : Nat → va_E) : Prop := (∀ a, a ∈ L → ¬ (a = y ∨ (K a = 7 ∧ (ow a = 2 * y ∨ ow a = 2 * y + 1)) ∨ (K a = 8 ∧ ow a = y)) → ¬ K a = 2 → ¬ K a = 6 → f2 a = f a) ∧ (cP (f2 y) 0 = cP (f y) 0 ∧ cP (f2 y) 1 = cP (f y) 1 ∧ cP (f2 y) 2 = cP (f y) 2) ∧ PHK f f2 h
section FOUND
variable {kT kI kJ : ClassId} {K : Nat → Nat} {L : List Nat} {f f1 f2 : Nat → va_E} {ow : Nat → Nat} {x y a t h q1 q5 q7 c1 c2 c3 x0 : Nat} {pc fc mc i i2 : Int32} {l : List Nat} {g : Nat → Option Nat} {o : Option Nat}
theorem PHK.rf : PHK f f h := ⟨rfl, rfl, rfl, rfl, rfl, rfl, rfl, rfl⟩
theorem PHK.tr (h1 : PHK f f1 h) (h2 : PHK f1 f2 h) : PHK f f2 h := ⟨h2.1.trans h1.1, h2.2.1.trans h1.2.1, h2.2.2.1.trans h1.2.2.1, h2.2.2.2.1.trans h1.2.2.2.1, h2.2.2.2.2.1.trans h1.2.2.2.2.1, h2.2.2.2.2.2.1.trans h1.2.2.2.2.2.1, h2.2.2.2.2.2.2.1.trans h1.2.2.2.2.2.2.1, h2.2.2.2.2.2.2.2.trans h1.2.2.2.2.2.2.2⟩
theorem PHK.of (e : f2 h = f h) : PHK f f2 h := by unfold PHK; rw [e]; exact ⟨rfl, rfl, rfl, rfl, rfl, rfl, rfl, rfl⟩
theorem FF.rf : FF K L h f f := ⟨FR.rf, PHK.rf⟩
theorem FF.tr (h1 : FF K L h f f1) (h2 : FF K L h f1 f2) : FF K L h f f2 := ⟨FR.tr h1.1 h2.1 (fun _ q => q), h1.2.tr h2.2⟩
theorem FF.at {k : Nat} (hF : FF K L h f f2) (ha : isr K L k a) (hk : sK [2, 6] k = false) : f2 a = f a := hF.1 a ha.1 (by rw [ha.2]; exact hk)
theorem FF.lk (hF : FF K L h f f2) (ht : isr K L 1 t) : g_lk f2 t = g_lk f t := by
  funext w
  unfold g_lk
  rw [hF.at ht rfl]
theorem TF.rf : TF K L ow y h f f := ⟨fun _ _ _ _ _ => rfl, ⟨rfl, rfl, rfl⟩, PHK.rf⟩
theorem TF.tr (h1 : TF K L ow y h f f1) (h2 : TF K L ow y h f1 f2) : TF K L ow y h f f2 := ⟨fun a ha hn k2 k6 => (h2.1 a ha hn k2 k6).trans (h1.1 a ha hn k2 k6), ⟨h2.2.1.1.trans h1.2.1.1, h2.2.1.2.1.trans h1.2.1.2.1, h2.2.1.2.2.trans h1.2.1.2.2⟩, h1.2.2.tr h2.2.2⟩
theorem TF.ofTL (hh : isr K L 2 h) (hy : isr K L 0 y) (hT : TL K L ow y f f2) : TF K L ow y h f f2 := ⟨fun a ha hn _ _ => hT.1 a ha hn, hT.2, PHK.of (hT.at hy hh (by decide))⟩
theorem TF.ofFF (hy : isr K L 0 y) (hF : FF K L h f f2) : TF K L ow y h f f2 := by
  refine ⟨fun a ha _ k2 k6 => hF.1 a ha ?_, ?_, hF.2⟩
  · show List.contains [2, 6] (K a) = false
    simp [k2, k6]
  · rw [hF.at hy rfl]
    exact ⟨rfl, rfl, rfl⟩
theorem TF.at {k : Nat} (hT : TF K L ow y h f f2) (hy : isr K L 0 y) (ha : isr K L k a) (hk : ¬ k = 0 ∧ ¬ k = 7 ∧ ¬ k = 8 ∧ ¬ k = 2 ∧ ¬ k = 6) : f2 a = f a := hT.1 a ha.1 (fun hn => by
  rcases hn with e | ⟨e, -⟩ | ⟨e, -⟩
  · exact isr_ne ha hy hk.1 e
  · rw [ha.2] at e; exact hk.2.1 e
  · rw [ha.2] at e; exact hk.2.2.1 e) (by rw [ha.2]; exact hk.2.2.2.1) (by rw [ha.2]; exact hk.2.2.2.2)
theorem TF.own (hT : TF K L ow y h f f2) (hy : isr K L 0 y) (hO : OWN K L f ow) : OWN K L f2 ow := by
  refine ⟨fun x hx => ?_, fun t ht => ?_⟩
  · by_cases e : x = y
    · subst e
      rw [hT.2.1.1, hT.2.1.2.1, hT.2.1.2.2]
      exact hO.1 x hx
    · rw [hT.1 x hx.1 (fun hn => by
        rcases hn with q | ⟨q, -⟩ | ⟨q, -⟩
        · exact e q
        · rw [hx.2] at q; cases q
        · rw [hx.2] at q; cases q) (by rw [hx.2]; decide) (by rw [hx.2]; decide)]
      exact hO.1 x hx
  · rw [hT.at hy ht (by decide)]
    exact hO.2 t ht
theorem TF.ls (hT : TF K L ow y h f f2) (hPI : PI kT kI kJ K L f) (hO : OWN K L f ow) (hy : isr K L 0 y) (hx : isr K L 0 x) (hne : x ≠ y) : l_z f2 x = l_z f x ∧ l_n f2 x = l_n f x ∧ l_d f2 x = l_d f x ∧ l_v f2 x = l_v f x := by
  obtain ⟨a, b, c, z, e, ha, hb, hc, hz⟩ := hPI.a0 hx
  have e2 : f2 x = f x := hT.1 x hx.1 (fun hn => by
    rcases hn with q | ⟨q, -⟩ | ⟨q, -⟩
    · exact hne q
    · rw [hx.2] at q; cases q
    · rw [hx.2] at q; cases q) (by rw [hx.2]; decide) (by rw [hx.2]; decide)
  have o := hO.1 x hx
  rw [li_pn e, li_pd e, li_pv e] at o
  have ea : f2 a = f a := hT.1 a ha.1 (fun hn => by
    rcases hn with q | ⟨-, q⟩ | ⟨q, -⟩
    · exact isr_ne ha hy (by decide) q
    · omega
    · rw [ha.2] at q; cases q) (by rw [ha.2]; decide) (by rw [ha.2]; decide)
  have eb : f2 b = f b := hT.1 b hb.1 (fun hn => by
    rcases hn with q | ⟨-, q⟩ | ⟨q, -⟩
    · exact isr_ne hb hy (by decide) q
    · omega
    · rw [hb.2] at q; cases q) (by rw [hb.2]; decide) (by rw [hb.2]; decide)
  have ec : f2 c = f c := hT.1 c hc.1 (fun hn => by
    rcases hn with q | ⟨q, -⟩ | ⟨-, q⟩
    · exact isr_ne hc hy (by decide) q
    · rw [hc.2] at q; cases q
    · omega) (by rw [hc.2]; decide) (by rw [hc.2]; decide)
  unfold l_z l_n l_d l_v
  rw [e2, li_pn e, li_pd e, li_pv e, ea, eb, ec]
  exact ⟨rfl, rfl, rfl, rfl⟩
theorem FS.mk (e : f h = .inr (2, [.ref q1, .int pc, .ref c1, .ref c2, .ref c3, .ref q5, .int fc, .ref q7, .int mc])) (ea : f q5 = .inl (kT, 24, .inr (.inr (.inr (.inr g))))) (hl : fc.toInt = (l.length : Int)) (hg : ∀ i t, l[i]? = some t → g i = some t) : FS f h l := by
  refine ⟨by rw [ob_fc e]; exact hl, fun i t ht => ?_⟩
  rw [ob_q5 e, ea]
  exact hg i t ht
theorem FS.un (hF : FS f h l) (e : f h = .inr (2, [.ref q1, .int pc, .ref c1, .ref c2, .ref c3, .ref q5, .int fc, .ref q7, .int mc])) (ea : f q5 = .inl (kT, 24, .inr (.inr (.inr (.inr g))))) : fc.toInt = (l.length : Int) ∧ ∀ i t, l[i]? = some t → g i = some t := by
  have h1 := hF.1
  have h2 := hF.2
  rw [ob_fc e] at h1
  rw [ob_q5 e, ea] at h2
  exact ⟨h1, h2⟩
theorem fs_nn (hF : fc.toInt = (l.length : Int) ∧ ∀ i t, l[i]? = some t → g i = some t) : ∀ j : Nat, (j : Int) < fc.toInt → g j ≠ none := fun j hj => by
  have hl : j < l.length := by have := hF.1; omega
  rw [hF.2 j _ (List.getElem?_eq_getElem hl)]
  exact fun h => by cases h
theorem fs_at (hF : fc.toInt = (l.length : Int) ∧ ∀ i t, l[i]? = some t → g i = some t) (h0 : 0 ≤ i.toInt) (hi : i.toInt < fc.toInt) (eo : g (Int32.toNatClampNeg i) = some t) : l[Int32.toNatClampNeg i]? = some t := by
  have hc := clamp_int h0
  have hl : Int32.toNatClampNeg i < l.length := by have := hF.1; omega
  have e := List.getElem?_eq_getElem hl
  have e2 := (hF.2 _ _ e).symm.trans eo
  rw [e, e2]
theorem fs_no (hF : fc.toInt = (l.length : Int) ∧ ∀ i t, l[i]? = some t → g i = some t) (hI : ∀ j : Nat, (j : Int) < i.toInt → ¬ l[j]? = some x0) (h0 : 0 ≤ i.toInt) (eo : g (Int32.toNatClampNeg i) = o) (hne : ¬ o = some x0) (e2 : i2.toInt = i.toInt + 1) : ∀ j : Nat, (j : Int) < i2.toInt → ¬ l[j]? = some x0 := fun j hj hl => by
  have hc := clamp_int h0
  by_cases e : (j : Int) < i.toInt
  · exact hI j e hl
  · have ej : j = Int32.toNatClampNeg i := by omega
    rw [ej] at hl
    exact hne (eo.symm.trans (hF.2 _ _ hl))
theorem fs_hit (hF : fc.toInt = (l.length : Int) ∧ ∀ i t, l[i]? = some t → g i = some t) (hI : ∀ j : Nat, (j : Int) < i.toInt → ¬ l[j]? = some x0) (h0 : 0 ≤ i.toInt) (hi : i.toInt < fc.toInt) (eo : g (Int32.toNatClampNeg i) = o) (ho : o = some x0) {no : Int32} : i = nbr no l x0 := by
  have hc := clamp_int h0
  rw [nbr_at (fs_at hF h0 hi (eo.trans ho)) (fun j hj => hI j (by omega))]
  apply Int32.toInt_inj.mp
  rw [oN_toInt (n := Int32.toNatClampNeg i) (by have := Int32.toInt_lt i; omega)]
  omega
theorem fs_miss (hF : fc.toInt = (l.length : Int) ∧ ∀ i t, l[i]? = some t → g i = some t) (hI : ∀ j : Nat, (j : Int) < i.toInt → ¬ l[j]? = some x0) (hi : ¬ i.toInt < fc.toInt) {no : Int32} : no = nbr no l x0 := by
  rw [nbr_no (fun j hj => hI j (by have := hF.1; omega))]
theorem nbr_in {no : Int32} (hl : l.length ≤ 24) (hn : no.toInt < 0) : (0 ≤ (nbr no l x0).toInt ↔ x0 ∈ l) := by
  unfold nbr
  split
  · rename_i hm
    have h1 : l.idxOf x0 < l.length := List.idxOf_lt_length_iff.mpr hm
    rw [oN_toInt (n := l.idxOf x0) (by omega)]
    exact ⟨fun _ => hm, fun _ => by omega⟩
  · rename_i hm
    exact ⟨fun h => by omega, fun h => absurd h hm⟩
theorem fs_push {z : Int32} (hF : fc.toInt = (l.length : Int) ∧ ∀ i t, l[i]? = some t → g i = some t) (hz : z.toInt = fc.toInt + 1) : z.toInt = ((l ++ [x0]).length : Int) ∧ ∀ i t, (l ++ [x0])[i]? = some t → va_up g (Int32.toNatClampNeg fc) (some x0) i = some t := by
  have hc := clamp_int (i := fc) (by have := hF.1; omega)
  have hk : Int32.toNatClampNeg fc = l.length := by have := hF.1; omega
  refine ⟨by rw [List.length_append]; have := hF.1; simp; omega, fun i t e => ?_⟩
  rw [hk]
  rcases Nat.lt_trichotomy i l.length with hi | hi | hi
  · rw [List.getElem?_append_left hi] at e
    rw [va_up_ne _ _ (by omega)]
    exact hF.2 i t e
  · subst hi
    rw [List.getElem?_append_right (Nat.le_refl _), Nat.sub_self] at e
    rw [va_up_self]
    exact e
  · rw [List.getElem?_eq_none (by simp; omega)] at e
    cases e
theorem fs_one {z k0 : Int32} (hz : z.toInt = 1) (hk : Int32.toNatClampNeg k0 = 0) : z.toInt = (([x0] : List Nat).length : Int) ∧ ∀ i t, ([x0] : List Nat)[i]? = some t → va_up g (Int32.toNatClampNeg k0) (some x0) i = some t := by
  refine ⟨by simp [hz], fun i t e => ?_⟩
  rw [hk]
  cases i with
  | zero => rw [va_up_self]; exact e
  | succ i => simp at e
theorem ad_all (hl : ∀ t ∈ l, isr K L 1 t) (ho : opr K L 1 o) : ∀ t ∈ ad l o, isr K L 1 t := by
  unfold ad
  split
  · exact hl
  · rename_i u
    split
    · exact hl
    · intro t ht
      rcases List.mem_append.mp ht with h | h
      · exact hl t h
      · rw [List.mem_singleton.mp h]
        exact ho u rfl
end FOUND
section FDS
variable {N : Nat → Int → Option Nat} {l : List Nat} {t : Nat} {i i2 : Int32} {a b c : Option Nat}
theorem st3_is (h8 : N t 8 = a) (h11 : N t 11 = b) (h15 : N t 15 = c) : st3 N l t = ad (ad (ad l a) b) c := by unfold st3; rw [h8, h11, h15]
theorem fd_over1 (h0 : 0 ≤ i.toInt) (h1 : i.toInt < 24) (hat : l[Int32.toNatClampNeg i]? = some t) (hs : ¬ (st3 N l t).length ≤ 24) : fd N (25 - i.toInt).toNat i.toInt.toNat l = none := by
  have e : (25 - i.toInt).toNat = (24 - i.toInt).toNat + 1 := by omega
  rw [e]
  exact fd_over hat hs
theorem fd_step1 (h0 : 0 ≤ i.toInt) (h1 : i.toInt < 24) (hat : l[Int32.toNatClampNeg i]? = some t) (hs : (st3 N l t).length ≤ 24) (e2 : i2.toInt = i.toInt + 1) : fd N (25 - i2.toInt).toNat i2.toInt.toNat (st3 N l t) = fd N (25 - i.toInt).toNat i.toInt.toNat l := by
  have e : (25 - i.toInt).toNat = (25 - i2.toInt).toNat + 1 := by omega
  have e3 : i2.toInt.toNat = Int32.toNatClampNeg i + 1 := by
    have hc := clamp_int h0
    omega
  rw [e, e3]
  exact (fd_step hat hs).symm
end FDS


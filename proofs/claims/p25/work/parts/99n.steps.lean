-- FROM LEAVES TO OBJECTS: steps
def csM (M : List (Int32 × Int32)) (i : Nat) : Int32 := (M.getD i (0, 0)).1
def vsM (M : List (Int32 × Int32)) (i : Nat) : Nat → Int64 := ks_vals (M.getD i (0, 0)).1 (M.getD i (0, 0)).2
section STEPS
variable {kT kI kJ : ClassId} {K Kl K2 : Nat → Nat} {L Ll L2 : List Nat} {f fl f2 : Nat → va_E} {ow : Nat → Nat} {h n : Nat} {qs : Nat → Nat} {cs cs2 : Nat → Int32} {V V2 : Nat → Nat → Int64} {N N2 : Nat → Int → Option Nat} {R R2 : Nat → Option (Nat × (Nat → Int32))} {ll : List (Int32 × Int32 × Int64)} {M : List (Int32 × Int32)}
theorem MDf.cg (hM : MDf K L f h Kl Ll fl ow n qs cs V N R) (hc : ∀ i, i < n → cs2 i = cs i ∧ V2 i = V i) : MDf K L f h Kl Ll fl ow n qs cs2 V2 N R := ⟨hM.1, hM.2.1, hM.2.2.1, hM.2.2.2.1, fun i hi => by
  rw [(hc i hi).1, (hc i hi).2]
  exact hM.2.2.2.2 i hi⟩
/-- the list of leaves is as it was -/
theorem MDf.ls (hM : MDf K L f h Kl Ll fl ow n qs cs V N R) (hPI : PI kT kI kJ K L f) (hh : isr K L 2 h) (hl : LSt f (cP (f h) 2) ll) : LSt fl (cP (fl h) 2) ll := by
  obtain ⟨q1, pc, c1, c2, c3, q5, fc, q7, mc, eh, h1, h2, h3, h4, h5, h6, h7, h8⟩ := hPI.a2 hh
  obtain ⟨a, b, c, z, e, ha, hb, hc, hz⟩ := hPI.a0 h2
  have eK : ∀ k y, isr K L k y → ¬ k = 2 → ¬ k = 6 → fl y = f y := fun k y hy k2 k6 => hM.1.1 y hy.1 (isr_ne hy hh k2) (by rw [hy.2]; exact k6)
  rw [hM.1.2.2.2.1]
  rw [ob_c1 eh] at hl ⊢
  unfold LSt l_z l_n l_d l_v at hl ⊢
  rw [li_pn e, li_pd e, li_pv e] at hl
  rw [eK 0 c1 h2 (by decide) (by decide), li_pn e, li_pd e, li_pv e, eK 7 a ha (by decide) (by decide), eK 7 b hb (by decide) (by decide), eK 8 c hc (by decide) (by decide)]
  exact hl
theorem MDf.ma (hM : MDf K L f h Kl Ll fl ow n qs cs V N R) (v : Int64) : ks_ma fl h v = if 0 ≤ v.toInt ∧ v.toInt < (n : Int) then some (qs v.toInt.toNat) else none := by
  unfold ks_ma
  rw [hM.2.2.1.1]
  split
  · rename_i hv
    exact (hM.2.2.1.2 v.toInt.toNat (by omega)).1
  · rfl
theorem M_snoc {c t : Int32} (hM : ∀ i c t, M[i]? = some (c, t) → cs i = c ∧ V i = ks_vals c t) : ∀ i c2 t2, (M ++ [(c, t)])[i]? = some (c2, t2) → va_up cs M.length c i = c2 ∧ va_up V M.length (ks_vals c t) i = ks_vals c2 t2 := fun i c2 t2 e => by
  rcases Nat.lt_trichotomy i M.length with hi | hi | hi
  · rw [List.getElem?_append_left hi] at e
    rw [va_up_ne _ _ (by omega), va_up_ne _ _ (by omega)]
    exact hM i c2 t2 e
  · subst hi
    rw [List.getElem?_append_right (Nat.le_refl _), Nat.sub_self] at e
    simp at e
    rw [va_up_self, va_up_self, e.1, e.2]
    exact ⟨rfl, rfl⟩
  · rw [List.getElem?_eq_none (by simp; omega)] at e
    cases e
theorem M_get (hM : ∀ i c t, M[i]? = some (c, t) → cs i = c ∧ V i = ks_vals c t) : ∀ i, i < M.length → csM M i = cs i ∧ vsM M i = V i := fun i hi => by
  have e : M[i]? = some (M.getD i (0, 0)) := by rw [List.getD_eq_getElem?_getD, List.getElem?_eq_getElem hi]; rfl
  obtain ⟨h1, h2⟩ := hM i _ _ e
  exact ⟨h1.symm, h2.symm⟩
theorem tak_snoc {x : Int32 × Int32} (hM : ∀ y ∈ M, tak y) (hx : tak x) : ∀ y ∈ M ++ [x], tak y := fun y hy => by
  rcases List.mem_append.mp hy with h | h
  · exact hM y h
  · rw [List.mem_singleton.mp h]; exact hx
theorem mkl_done {m : List (Int32 × Int32)} (e : mkl ll = M ++ m) (h24 : (mkl ll).length ≤ 24) (hM : 24 ≤ M.length) : mkl ll = M := by
  have h1 := congrArg List.length e
  rw [List.length_append] at h1
  have h2 : m = [] := List.length_eq_zero_iff.mp (by omega)
  rw [e, h2, List.append_nil]
/-- one leaf is filled in -/
theorem fill_step {w : Int32} {a : Int32} {v : Int64} (hhL : isr K L 2 h) (hE : EXT K L Kl Ll) (hPI : PI kT kI kJ Kl Ll fl) (hM : MDf K L f h Kl Ll fl ow n qs cs V N R) (ha : 0 ≤ a.toInt ∧ a.toInt < (n : Int)) (hff : ks_ff kI Kl Ll fl h (qs (Int32.toNatClampNeg a)) w v K2 L2 f2) : ks_ffr fl h w v = fcd n cs (a, w, v) ∧ ∃ (ow2 : Nat → Nat) (V2 : Nat → Nat → Int64) (N2 : Nat → Int → Option Nat) (R2 : Nat → Option (Nat × (Nat → Int32))), MDf K L f h K2 L2 f2 ow2 n qs cs V2 N2 R2 ∧ (fcd n cs (a, w, v) = 0 → V2 = stV (a, w, v) V ∧ N2 = stN (a, w, v) N ∧ R2 = stR (a, w, v) R) := by
  have hca := clamp_int ha.1
  have han : Int32.toNatClampNeg a < n := by omega
  have hma := hM.ma v
  have hcs : ∀ y, y < n → g_cn fl (qs y) = cs y := fun y hy => (hM.2.2.2.2 y hy).1
  have hR : g_rw fl (qs (Int32.toNatClampNeg a)) = R (Int32.toNatClampNeg a) := (hM.2.2.2.2 _ han).2.2.2.1
  rcases hff with ⟨⟨rfl, rfl⟩, ⟨hw, e2⟩ | ⟨hw, hv, e2⟩ | ⟨hw, hr⟩ | ⟨hw, e2⟩ | ⟨hw, rfl⟩⟩ | ⟨hw, q, ⟨hq, rfl, rfl⟩, e2⟩
  · have e0 : fcd n cs (a, w, v) = if 0 ≤ v.toInt ∧ v.toInt < (n : Int) then (if (((sp_wan w).toInt = 5 ∧ ¬ (cs v.toInt.toNat).toInt = 4) ∨ (¬ (sp_wan w).toInt = 5 ∧ (sp_wan w).toInt ≤ 2 ∧ (sp_wan w).toInt ≤ (cs v.toInt.toNat).toInt ∧ (cs v.toInt.toNat).toInt ≤ 2) ∨ (¬ (sp_wan w).toInt = 5 ∧ ¬ (sp_wan w).toInt ≤ 2 ∧ (cs v.toInt.toNat).toInt = (sp_wan w).toInt)) then 0 else -14) else -12 := by
      unfold fcd
      rw [if_pos ha, if_pos hw]
    have e1 : ks_ffr fl h w v = fcd n cs (a, w, v) := by
      rw [e0]
      unfold ks_ffr ks_flr
      rw [if_pos hw, hma]
      by_cases hv : 0 ≤ v.toInt ∧ v.toInt < (n : Int)
      · rw [if_pos hv, if_pos hv]
        show (if (((sp_wan w).toInt = 5 ∧ ¬ (g_cn fl (qs v.toInt.toNat)).toInt = 4) ∨ (¬ (sp_wan w).toInt = 5 ∧ (sp_wan w).toInt ≤ 2 ∧ (sp_wan w).toInt ≤ (g_cn fl (qs v.toInt.toNat)).toInt ∧ (g_cn fl (qs v.toInt.toNat)).toInt ≤ 2) ∨ (¬ (sp_wan w).toInt = 5 ∧ ¬ (sp_wan w).toInt ≤ 2 ∧ (g_cn fl (qs v.toInt.toNat)).toInt = (sp_wan w).toInt)) then (0 : Int32) else -14) = _
        rw [hcs v.toInt.toNat (by omega)]
      · rw [if_neg hv, if_neg hv]
    refine ⟨e1, ?_⟩
    by_cases hz : fcd n cs (a, w, v) = 0
    · rw [e0] at hz
      by_cases hv : 0 ≤ v.toInt ∧ v.toInt < (n : Int)
      · rw [if_pos hv] at hz
        by_cases ho : (((sp_wan w).toInt = 5 ∧ ¬ (cs v.toInt.toNat).toInt = 4) ∨ (¬ (sp_wan w).toInt = 5 ∧ (sp_wan w).toInt ≤ 2 ∧ (sp_wan w).toInt ≤ (cs v.toInt.toNat).toInt ∧ (cs v.toInt.toNat).toInt ≤ 2) ∨ (¬ (sp_wan w).toInt = 5 ∧ ¬ (sp_wan w).toInt ≤ 2 ∧ (cs v.toInt.toNat).toInt = (sp_wan w).toInt))
        · have e3 : f2 = ks_hold fl (qs (Int32.toNatClampNeg a)) w (some (qs v.toInt.toNat)) := by
            rw [e2]
            unfold ks_fl
            rw [hma, if_pos hv]
            show (if (((sp_wan w).toInt = 5 ∧ ¬ (g_cn fl (qs v.toInt.toNat)).toInt = 4) ∨ (¬ (sp_wan w).toInt = 5 ∧ (sp_wan w).toInt ≤ 2 ∧ (sp_wan w).toInt ≤ (g_cn fl (qs v.toInt.toNat)).toInt ∧ (g_cn fl (qs v.toInt.toNat)).toInt ≤ 2) ∨ (¬ (sp_wan w).toInt = 5 ∧ ¬ (sp_wan w).toInt ≤ 2 ∧ (g_cn fl (qs v.toInt.toNat)).toInt = (sp_wan w).toInt)) then _ else _) = _
            rw [hcs v.toInt.toNat (by omega), if_pos ho]
          refine ⟨ow, _, _, _, mdf_link hw hhL hE hPI hM han e3, fun _ => ⟨?_, ?_, ?_⟩⟩
          · unfold stV; rw [if_neg (by show ¬ ((0 ≤ w.toInt ∧ w.toInt < 17 ∧ ¬ w.toInt = 8 ∧ ¬ w.toInt = 9 ∧ ¬ w.toInt = 11 ∧ ¬ w.toInt = 15) ∧ ¬ (w.toInt = 13 ∨ w.toInt = 16)); omega)]
          · unfold stN; rw [if_pos hw]
          · unfold stR; rw [if_neg (by show ¬ w.toInt = 9; omega), if_neg (by show ¬ 100 ≤ w.toInt; omega)]
        · rw [if_neg ho] at hz; exact absurd hz (by decide)
      · rw [if_neg hv] at hz; exact absurd hz (by decide)
    · have e3 : f2 = fl := by
        rw [e2]
        unfold ks_fl
        rw [hma]
        by_cases hv : 0 ≤ v.toInt ∧ v.toInt < (n : Int)
        · rw [if_pos hv]
          show (if (((sp_wan w).toInt = 5 ∧ ¬ (g_cn fl (qs v.toInt.toNat)).toInt = 4) ∨ (¬ (sp_wan w).toInt = 5 ∧ (sp_wan w).toInt ≤ 2 ∧ (sp_wan w).toInt ≤ (g_cn fl (qs v.toInt.toNat)).toInt ∧ (g_cn fl (qs v.toInt.toNat)).toInt ≤ 2) ∨ (¬ (sp_wan w).toInt = 5 ∧ ¬ (sp_wan w).toInt ≤ 2 ∧ (g_cn fl (qs v.toInt.toNat)).toInt = (sp_wan w).toInt)) then _ else _) = _
          rw [hcs v.toInt.toNat (by omega)]
          rw [e0, if_pos hv] at hz
          by_cases ho : (((sp_wan w).toInt = 5 ∧ ¬ (cs v.toInt.toNat).toInt = 4) ∨ (¬ (sp_wan w).toInt = 5 ∧ (sp_wan w).toInt ≤ 2 ∧ (sp_wan w).toInt ≤ (cs v.toInt.toNat).toInt ∧ (cs v.toInt.toNat).toInt ≤ 2) ∨ (¬ (sp_wan w).toInt = 5 ∧ ¬ (sp_wan w).toInt ≤ 2 ∧ (cs v.toInt.toNat).toInt = (sp_wan w).toInt))
          · rw [if_pos ho] at hz; exact absurd rfl hz
          · rw [if_neg ho]
        · rw [if_neg hv]
      rw [e3]
      exact ⟨ow, V, N, R, hM, fun h9 => absurd h9 hz⟩
  · have e0 : fcd n cs (a, w, v) = 0 := by unfold fcd; rw [if_pos ha, if_neg (by show ¬ (w.toInt = 8 ∨ w.toInt = 11 ∨ w.toInt = 15); omega)]
    refine ⟨by rw [e0]; unfold ks_ffr; rw [if_neg (by omega)], ow, _, _, _, mdf_row0 hhL hE hPI hM han e2, fun _ => ⟨?_, ?_, ?_⟩⟩
    · unfold stV; rw [if_neg (by show ¬ ((0 ≤ w.toInt ∧ w.toInt < 17 ∧ ¬ w.toInt = 8 ∧ ¬ w.toInt = 9 ∧ ¬ w.toInt = 11 ∧ ¬ w.toInt = 15) ∧ ¬ (w.toInt = 13 ∨ w.toInt = 16)); omega)]
    · unfold stN; rw [if_neg (by show ¬ (w.toInt = 8 ∨ w.toInt = 11 ∨ w.toInt = 15); omega)]
    · unfold stR; rw [if_pos hw, if_neg hv]
  · have e0 : fcd n cs (a, w, v) = 0 := by unfold fcd; rw [if_pos ha, if_neg (by show ¬ (w.toInt = 8 ∨ w.toInt = 11 ∨ w.toInt = 15); omega)]
    refine ⟨by rw [e0]; unfold ks_ffr; rw [if_neg (by omega)], ?_⟩
    have hV : stV (a, w, v) V = V := by unfold stV; rw [if_neg (by show ¬ ((0 ≤ w.toInt ∧ w.toInt < 17 ∧ ¬ w.toInt = 8 ∧ ¬ w.toInt = 9 ∧ ¬ w.toInt = 11 ∧ ¬ w.toInt = 15) ∧ ¬ (w.toInt = 13 ∨ w.toInt = 16)); omega)]
    have hN : stN (a, w, v) N = N := by unfold stN; rw [if_neg (by show ¬ (w.toInt = 8 ∨ w.toInt = 11 ∨ w.toInt = 15); omega)]
    have hRR : stR (a, w, v) R = va_up R (Int32.toNatClampNeg a) ((R (Int32.toNatClampNeg a)).map (fun r => if w.toInt - 100 < (r.1 : Int) then (r.1, upd r.2 (w.toInt - 100).toNat v.toInt32) else r)) := by
      unfold stR; rw [if_neg (by show ¬ w.toInt = 9; omega), if_pos hw]
    rw [hV, hN, hRR]
    rcases hr with ⟨hr, rfl⟩ | ⟨r, p, hr, hp, e2⟩
    · have hR0 : R (Int32.toNatClampNeg a) = none := by rw [← hR]; unfold g_rw; rw [hr]; rfl
      refine ⟨ow, V, N, R, hM, fun _ => ⟨rfl, rfl, ?_⟩⟩
      rw [hR0]
      show R = va_up R _ none
      rw [← hR0, va_up_id]
    · obtain ⟨m, g, er, hm20⟩ := hPI.a4 (ow_pi hPI (hM.2.2.1.2 _ han).2.1 hr)
      have hR1 : R (Int32.toNatClampNeg a) = some (m, g) := by
        rw [← hR]; unfold g_rw; rw [hr]
        show some (aN (fl r), aI (fl r)) = _
        rw [er]; rfl
      have eN : aN (fl r) = m := by rw [er]; rfl
      rw [eN] at e2
      have hpn : (w.toInt - 100).toNat = p := by omega
      rw [hR1]
      show ∃ ow2 V2 N2 R2, _ ∧ (_ → V2 = V ∧ N2 = N ∧ R2 = va_up R _ (some (if w.toInt - 100 < (m : Int) then (m, upd g (w.toInt - 100).toNat v.toInt32) else (m, g))))
      by_cases hlt : (p : Int) < (m : Int)
      · rw [if_pos hlt] at e2
        refine ⟨ow, V, N, _, mdf_place hhL hE hPI hM han hr er e2, fun _ => ⟨rfl, rfl, ?_⟩⟩
        rw [if_pos (by omega), hpn]
      · rw [if_neg hlt] at e2
        rw [e2]
        refine ⟨ow, V, N, R, hM, fun _ => ⟨rfl, rfl, ?_⟩⟩
        rw [if_neg (by omega), ← hR1, va_up_id]
  · have e0 : fcd n cs (a, w, v) = 0 := by unfold fcd; rw [if_pos ha, if_neg (by show ¬ (w.toInt = 8 ∨ w.toInt = 11 ∨ w.toInt = 15); omega)]
    refine ⟨by rw [e0]; unfold ks_ffr; rw [if_neg (by omega)], ow, _, _, _, mdf_val hhL hE hPI hM han e2, fun _ => ⟨?_, ?_, ?_⟩⟩
    · unfold stV; rw [if_pos hw]
    · unfold stN; rw [if_neg (by show ¬ (w.toInt = 8 ∨ w.toInt = 11 ∨ w.toInt = 15); omega)]
    · unfold stR; rw [if_neg (by show ¬ w.toInt = 9; omega), if_neg (by show ¬ 100 ≤ w.toInt; omega)]
  · have e0 : fcd n cs (a, w, v) = 0 := by unfold fcd; rw [if_pos ha, if_neg hw.1]
    refine ⟨by rw [e0]; unfold ks_ffr; rw [if_neg hw.1], ow, V, N, R, hM, fun _ => ⟨?_, ?_, ?_⟩⟩
    · unfold stV; rw [if_neg hw.2.2.2]
    · unfold stN; rw [if_neg hw.1]
    · unfold stR; rw [if_neg hw.2.1, if_neg (by show ¬ 100 ≤ w.toInt; omega)]
  · have e0 : fcd n cs (a, w, v) = 0 := by unfold fcd; rw [if_pos ha, if_neg (by show ¬ (w.toInt = 8 ∨ w.toInt = 11 ∨ w.toInt = 15); omega)]
    refine ⟨by rw [e0]; unfold ks_ffr; rw [if_neg (by omega)], _, _, _, _, mdf_row1 hhL hE hPI hM han hq e2, fun _ => ⟨?_, ?_, ?_⟩⟩
    · unfold stV; rw [if_neg (by show ¬ ((0 ≤ w.toInt ∧ w.toInt < 17 ∧ ¬ w.toInt = 8 ∧ ¬ w.toInt = 9 ∧ ¬ w.toInt = 11 ∧ ¬ w.toInt = 15) ∧ ¬ (w.toInt = 13 ∨ w.toInt = 16)); omega)]
    · unfold stN; rw [if_neg (by show ¬ (w.toInt = 8 ∨ w.toInt = 11 ∨ w.toInt = 15); omega)]
    · unfold stR; rw [if_pos hw.1, if_pos hw.2]
end STEPS
section STEPS2
variable {K Kl : Nat → Nat} {L Ll : List Nat} {f fl : Nat → va_E} {ow : Nat → Nat} {h n y : Nat} {qs : Nat → Nat} {cs : Nat → Int32} {V : Nat → Nat → Int64} {N : Nat → Int → Option Nat} {R : Nat → Option (Nat × (Nat → Int32))} {a : Int32}
theorem ma_some (hM : MDf K L f h Kl Ll fl ow n qs cs V N R) (hq : some y = ks_ma fl h (Int32.toInt64 a)) : (0 ≤ a.toInt ∧ a.toInt < (n : Int)) ∧ y = qs (Int32.toNatClampNeg a) := by
  rw [hM.ma, Int32.toInt_toInt64] at hq
  by_cases hv : 0 ≤ a.toInt ∧ a.toInt < (n : Int)
  · rw [if_pos hv] at hq
    exact ⟨hv, Option.some.inj hq⟩
  · rw [if_neg hv] at hq
    cases hq
theorem ma_none (hM : MDf K L f h Kl Ll fl ow n qs cs V N R) (hq : none = ks_ma fl h (Int32.toInt64 a)) : ¬ (0 ≤ a.toInt ∧ a.toInt < (n : Int)) := fun hv => by
  rw [hM.ma, Int32.toInt_toInt64, if_pos hv] at hq
  cases hq
theorem fcd_out {x : Int32 × Int32 × Int64} (h : ¬ (0 ≤ x.1.toInt ∧ x.1.toInt < (n : Int))) : fcd n cs x = -12 := if_neg h
end STEPS2


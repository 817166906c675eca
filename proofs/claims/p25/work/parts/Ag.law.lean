-- WHAT THE LAW KEEPS: the reference as functions, the tie, the count
def RN (kI kJ kZ : ClassId) (K : Nat → Nat) (L : List Nat) (f : Nat → va_E) (g : Nat) (fS fC : Nat → Int32) (fF : Nat → Int64) (fR fW lo ld : Nat → Int32) (lv : Nat → Int64) (lm pa : Int32) : Prop := PR kI kJ kZ K L f ∧ UN K L ∧ isr K L 10 g ∧ RV kI kJ K L f g fS fC fF fR fW lo ld lv lm pa
def TN (K : Nat → Nat) (L : List Nat) (f : Nat → va_E) (h : Nat) (fS fC : Nat → Int32) (fF : Nat → Int64) (fR fW lo ld : Nat → Int32) (lv : Nat → Int64) (lm pa : Int32) (nE nJ : Nat) : Prop := ∃ (A : Nat → Prop) (rho ow : Nat → Nat) (ll : List (Int32 × Int32 × Int64)), TIE K L f h fS fC fF fR fW A rho ∧ CZ K L f h ow ll pa ∧ LSv lm lo ld lv ll ∧ WF ll ∧ GI fS fC fF nE (24 * nJ)
section RNS
variable {kI kJ kZ : ClassId} {K : Nat → Nat} {L : List Nat} {f f2 : Nat → va_E} {g : Nat} {fS fC : Nat → Int32} {fF : Nat → Int64} {fR fW lo ld : Nat → Int32} {lv : Nat → Int64} {lm pa : Int32} {nE nB : Nat} {s t w : Int32} {v : Int64}
theorem RN.rg (h : RN kI kJ kZ K L f g fS fC fF fR fW lo ld lv lm pa) : rgS fS ∧ rgF fF ∧ rgR fR := by
  obtain ⟨hP, hU, hg, hR⟩ := h
  obtain ⟨s1, s2, s3, s4, s5, s6, s7, pa', lm', s8, s9, s10, fm, s11, nm, s12, s13, s14, rm, s15, s16, s17, s18, e, i1, i2, i3, i4, _⟩ := hP.a10 hg
  exact ⟨(hP.a11 i1).of (hR.1.1 s1 i1), (hP.a13 i3).of (hR.1.2.2 s3 i3), (hP.a14 i4).of (hR.2.1.1 s4 i4)⟩
theorem gi_up (h : GI fS fC fF nE nB) : GI fS fC fF (nE + 1) nB := by
  obtain ⟨A, b, E, B, hG, h1, h2⟩ := h
  exact ⟨A, b, E, B, hG, by omega, h2⟩
theorem gi_clear (h : GI fS fC fF nE nB) : GI (rw_clear fS s) fC fF nE nB := by
  unfold rw_clear
  split
  · exact gi_slot h (fun h9 => absurd (by decide) h9)
  · exact h
theorem gi_share (h : GI fS fC fF nE nB) : GI (rw_share fS s t) fC fF nE nB := by
  unfold rw_share
  split
  · rename_i hp
    have hc := clamp_int hp.1.1
    exact gi_slot h (fun h9 A hA => hA.1 _ (by omega) h9)
  · exact h
theorem gi_set (h : GI fS fC fF nE nB) : GI fS fC (rw_set fS fC fF s w v) nE nB := by
  unfold rw_set
  split
  · rename_i hp
    have hc := clamp_int hp.2.1
    split
    · exact h
    · split
      · split
        · exact h
        · refine gi_plain h (fun o f hf => ?_)
          unfold lkf at hf
          omega
      · exact h
  · exact h
theorem gi_lnk (h : GI fS fC fF nE nB) : GI fS fC (rw_link fS fC fF s w t) (nE + 1) nB := by
  unfold rw_link
  split
  · rename_i hp
    have hc := clamp_int (i := w) (by omega)
    have hct := clamp_int hp.2.2.1
    split
    · exact gi_up h
    · split
      · exact gi_up h
      · refine gi_link h (by omega) (fun hn A hA => ?_)
        rw [Int32.toInt_toInt64] at hn ⊢
        exact hA.1 _ (by omega) hn
  · exact gi_up h
theorem gi_follow (hrS : rgS fS) (hrF : rgF fF) (h : GI fS fC fF nE nB) : GI (rw_follow fS fC fF s w t) fC fF nE nB := by
  unfold rw_follow
  split
  · rename_i hp
    have hc := clamp_int (i := w) (by omega)
    have hcs := clamp_int hp.1.1
    split
    · exact h
    · rename_i hn
      split
      · rename_i hh
        refine gi_slot h (fun h9 A hA => ?_)
        have h1 := hA.1 (Int32.toNatClampNeg s) (by omega) hn
        have hb := hrS (Int32.toNatClampNeg s) (by omega)
        have h1 : A (Int32.toNatClampNeg (fS (Int32.toNatClampNeg s))) := h1
        have hco := clamp_int (i := fS (Int32.toNatClampNeg s)) (by omega)
        have hr := hrF (Int32.toNatClampNeg (fS (Int32.toNatClampNeg s))) (Int32.toNatClampNeg w) (by omega) (by omega)
        have e3 : (fF (17 * Int32.toNatClampNeg (fS (Int32.toNatClampNeg s)) + Int32.toNatClampNeg w)).toInt32.toInt = (fF (17 * Int32.toNatClampNeg (fS (Int32.toNatClampNeg s)) + Int32.toNatClampNeg w)).toInt := l2i_sm rfl (by omega) (by omega)
        rw [e3] at h9 ⊢
        exact hA.2 _ (Int32.toNatClampNeg w) h1 ⟨by unfold lkf; omega, by rw [hc]; exact hh, h9⟩
      · exact h
  · exact h
end RNS
theorem TN.start {K : Nat → Nat} {L : List Nat} {f : Nat → va_E} {h : Nat} {fS fC : Nat → Int32} {fF : Nat → Int64} {fR fW lo ld : Nat → Int32} {lv : Nat → Int64} {ow : Nat → Nat} (hs : ∀ j, j < 12 → g_sl f h j = none) (hZ : CZ K L f h ow [] 0) (h9 : ∀ j, j < 12 → fS j = -1) : TN K L f h fS fC fF fR fW lo ld lv 0 0 0 0 := by
  have k1 : Int32.toInt (-1) = -1 := by decide
  refine ⟨fun _ => False, id, ow, [], ⟨fun j hj => ?_, fun j o hj ho => ?_, fun o ho => ho.elim, fun o w t ho => ho.elim, fun a b ha => ha.elim⟩, hZ, LSv.nil (by decide), wf_nil, gi_0 h9⟩
  · rw [hs j hj, h9 j hj, r_ob_none k1]
    rfl
  · rw [h9 j hj, r_ob_none k1] at ho
    cases ho


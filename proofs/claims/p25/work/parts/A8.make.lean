-- MAKE on both sides
section MAKES
variable {kT kI kJ : ClassId} {K K2 : Nat → Nat} {L L2 : List Nat} {f f2 : Nat → va_E} {h : Nat} {fS fC fS2 fC2 : Nat → Int32} {fF fF2 : Nat → Int64} {fR fW fR2 : Nat → Int32} {A : Nat → Prop} {rho : Nat → Nat} {s n c : Int32} {ow : Nat → Nat} {ll : List (Int32 × Int32 × Int64)} {pa : Int32}
theorem mk_views {q u k : Nat} {V : Nat → Int64} (hPI : PI kT kI kJ K L f) (hh : isr K L 2 h) (hZ : CZ K L f h ow ll pa) (hq : q ∉ L) (hu : u ∉ L) (hqu : q ≠ u) (e2 : f2 = s_R (va_up (va_up f u (.inl (kJ, 17, .inr (.inl V)))) q (.inr (1, [.int c, .ref u, va_rf none, va_rf none, va_rf none, va_rf none]))) (cP (f h) 0) k (some q)) :
    (∀ t, isr K L 1 t → OV f f2 t) ∧ g_sl f2 h = va_up (g_sl f h) k (some q) ∧ (g_cn f2 q = c ∧ g_vl f2 q = V ∧ (∀ w, g_lk f2 q w = none) ∧ g_rw f2 q = none) ∧ CZ (va_up (va_up K u 3) q 1) (q :: u :: L) f2 h (va_up ow u q) ll pa := by
  obtain ⟨q1, pc, c1, c2, c3, q5, fc, q7, mc, e, h1, h2, h3, h4, h5, h6, h7, h8⟩ := hPI.a2 hh
  obtain ⟨g, eg, hg⟩ := hPI.a5 h1
  have n1q : q1 ≠ q := ne_of h1.1 hq
  have n1u : q1 ≠ u := ne_of h1.1 hu
  have ea : va_up (va_up f u (.inl (kJ, 17, .inr (.inl V)))) q (.inr (1, [.int c, .ref u, va_rf none, va_rf none, va_rf none, va_rf none])) q1 = .inl (kT, 12, .inr (.inr (.inr (.inr g)))) := by
    rw [va_up_ne _ _ n1q, va_up_ne _ _ n1u]
    exact eg
  rw [ob_q1 e, s_R_of ea] at e2
  have eo : ∀ a, a ∈ L → ¬ a = q1 → f2 a = f a := fun a ha hn => by
    rw [e2, va_up_ne _ _ hn, va_up_ne _ _ (ne_of ha hq), va_up_ne _ _ (ne_of ha hu)]
  have eq2 : f2 q = .inr (1, [.int c, .ref u, va_rf none, va_rf none, va_rf none, va_rf none]) := by
    rw [e2, va_up_ne _ _ n1q.symm, va_up_self]
  have eu2 : f2 u = .inl (kJ, 17, .inr (.inl V)) := by
    rw [e2, va_up_ne _ _ n1u.symm, va_up_ne _ _ hqu.symm, va_up_self]
  have eK : ∀ k a, isr K L k a → ¬ k = 5 → f2 a = f a := fun k a ha hk => eo a ha.1 (isr_ne ha h1 hk)
  have hfr : FR (sK [5]) K L f f2 := fun a ha hk => eo a ha (fun q => by rw [q, h1.2] at hk; cases hk)
  have eh := eK 2 h hh (by decide)
  have hkq : (va_up (va_up K u 3) q 1) q = 1 := va_up_self _ _ _
  have hku : (va_up (va_up K u 3) q 1) u = 3 := by rw [va_up_ne _ _ hqu.symm, va_up_self]
  have hback : ∀ k a, isr (va_up (va_up K u 3) q 1) (q :: u :: L) k a → a ≠ q → a ≠ u → isr K L k a := fun k a ha n1 n2 => by
    obtain ⟨h1, h2⟩ := ha
    rw [va_up_ne _ _ n1, va_up_ne _ _ n2] at h2
    rcases List.mem_cons.mp h1 with e | h1
    · exact absurd e n1
    · rcases List.mem_cons.mp h1 with e | h1
      · exact absurd e n2
      · exact ⟨h1, h2⟩
  obtain ⟨z1, z2, z3, z4⟩ := hZ
  refine ⟨fun t ht => ov_fr hPI hfr rfl rfl rfl ht, ?_, ⟨th_cn eq2, th_vl eq2 eu2, fun w => ?_, th_rw0 eq2⟩, ⟨fun y hy => ?_, fun y hy => ?_⟩, ?_, ?_, ?_⟩
  · rw [ob_sl e eg]
    unfold g_sl
    rw [eh, ob_q1 e, e2, va_up_self]
    rfl
  · rw [th_lk eq2]
    split <;> first | rfl | (split <;> first | rfl | (split <;> rfl))
  · have n1 : y ≠ q := fun e9 => by have h9 := hy.2; rw [e9, hkq] at h9; cases h9
    have n2 : y ≠ u := fun e9 => by have h9 := hy.2; rw [e9, hku] at h9; cases h9
    have hy2 := hback 0 y hy n1 n2
    obtain ⟨a, b, d, z0, ey, ha, hb, hd, _⟩ := hPI.a0 hy2
    have o := z1.1 y hy2
    rw [eK 0 y hy2 (by decide)]
    rw [li_pn ey, li_pd ey, li_pv ey] at o ⊢
    rw [va_up_ne _ _ (ne_of ha.1 hu), va_up_ne _ _ (ne_of hb.1 hu), va_up_ne _ _ (ne_of hd.1 hu)]
    exact o
  · by_cases n1 : y = q
    · subst n1
      rw [th_pv eq2, th_i eq2, va_up_self]
      exact ⟨rfl, fun r hr => by cases hr⟩
    · have n2 : y ≠ u := fun e9 => by have h9 := hy.2; rw [e9, hku] at h9; cases h9
      have hy2 := hback 1 y hy n1 n2
      have o := z1.2 y hy2
      rw [eK 1 y hy2 (by decide)]
      rw [va_up_ne _ _ (ne_of (ow_pv hPI hy2).1 hu)]
      refine ⟨o.1, fun r hr => ?_⟩
      rw [va_up_ne _ _ (ne_of (ow_pi hPI hy2 hr).1 hu)]
      exact o.2 r hr
  · rw [eh]; exact ls_fr hPI hfr rfl rfl rfl (ob_c1r hPI hh).1 z2
  · rw [eh]; exact z3
  · rw [eh]; exact z4
theorem call_make (hrS : rgS fS) (hrF : rgF fF) (hrR : rgR fR) (hPI : PI kT kI kJ K L f) (hh : isr K L 2 h) (hT : TIE K L f h fS fC fF fR fW A rho) (hZ : CZ K L f h ow ll pa) (hE : EXT K L K2 L2) (h1 : ks_mk kJ K L f h s c n K2 L2 f2) (h2 : rv_make fS fC fF fR s c n fS2 fC2 fF2 fR2) : ∃ A2 rho2 ow2, TIE K2 L2 f2 h fS2 fC2 fF2 fR2 fW A2 rho2 ∧ CZ K2 L2 f2 h ow2 ll pa := by
  rcases h1 with ⟨hb, rfl, rfl, rfl⟩ | ⟨hg, q, u, ⟨hq, hu, hqu, rfl, rfl⟩, e2⟩
  · rcases h2 with ⟨-, rfl, rfl, rfl, rfl⟩ | ⟨hg, -⟩
    · exact ⟨A, rho, ow, hT, hZ⟩
    · exact absurd hg hb
  · rcases h2 with ⟨hb, -⟩ | ⟨-, z, r, hM, hL, hr, rfl, rfl, rfl, rfl⟩
    · exact absurd hg hb
    · obtain ⟨v1, v2, v3, v4⟩ := mk_views hPI hh hZ hq hu hqu e2
      have hTm := tie_mark hrS hrF hT hM
      have hc := hg.2.1
      have hkq : (va_up (va_up K u 3) q 1) q = 1 := va_up_self _ _ _
      have k1 : ∀ j, j < 17 → ¬ lkf j → ¬ j = 9 → ks_vals c n j = r_vl (upd fC (Int32.toNatClampNeg r) c) (bnF fF (Int32.toNatClampNeg r) c n) (Int32.toNatClampNeg r) j := fun j q1 q2 q3 => by
        unfold r_vl
        rw [pk_us, bnF_vl q1 q2]
        by_cases hh : hs c.toInt (j : Int) = true
        · rw [if_pos hh]
        · rw [if_neg hh, ks_vals_no hc hh]
      have k2 : ∀ w, r_lk (upd fC (Int32.toNatClampNeg r) c) (bnF fF (Int32.toNatClampNeg r) c n) (Int32.toNatClampNeg r) w = none := fun w => by
        unfold r_lk
        refine if_neg (fun hx => hx.2.2 ?_)
        rw [bnF_lk (by omega)]
        decide
      have k3 : reqv none (r_rw (upd fC (Int32.toNatClampNeg r) c) (upd fR (Int32.toNatClampNeg r) (-1)) fW (Int32.toNatClampNeg r)) := by
        rw [r_rw_no (by rw [pk_us]; decide)]
        exact Or.inl ⟨rfl, rfl⟩
      obtain ⟨rho2, hT2⟩ := tie_batch (n := 1) (qs := fun _ => q) (ps := fun _ => Int32.toNatClampNeg r) (cs := fun _ => c) (V := fun _ => ks_vals c n) (N := fun _ _ => none) (R := fun _ => none) (k := Int32.toNatClampNeg s) (v := r) (fC2 := upd fC (Int32.toNatClampNeg r) c) (fF2 := bnF fF (Int32.toNatClampNeg r) c n) (fR2 := upd fR (Int32.toNatClampNeg r) (-1)) (fW2 := fW) hrR hTm hE v1 (fun i _ => ⟨hq, List.mem_cons_self, hkq⟩) (fun i j hi hj _ => by omega) (fun i _ => ⟨hL.1, fun hB => hB.2 hL.2.1⟩) (fun i j hi hj _ => by omega) (fun o ho => ⟨pk_un (ho 0 (by omega)), fun j hj => bnF_out hj (ho 0 (by omega)), pk_un (ho 0 (by omega)), fun i _ => rfl⟩) (fun i _ => ⟨v3.1, v3.2.1, v3.2.2.1, v3.2.2.2⟩) (fun i w t _ ht => by cases ht) (fun i _ => ⟨pk_us, hc, k1, k2, k3⟩) (by omega) v2 (r_ob_some (by omega))
      exact ⟨_, rho2, _, hT2, v4⟩
theorem gi_make {nE nB : Nat} (hrS : rgS fS) (hrF : rgF fF) (hG : GI fS fC fF nE nB) (h2 : rv_make fS fC fF fR s c n fS2 fC2 fF2 fR2) : GI fS2 fC2 fF2 nE (nB + 24) := by
  rcases h2 with ⟨-, rfl, rfl, rfl, rfl⟩ | ⟨-, z, r, hM, hL, hr, rfl, rfl, rfl, rfl⟩
  · exact gi_mono hG (by omega)
  · exact make_gi hrS hrF hG hM hL bnF_bg rfl
end MAKES


theorem lall_mem {O : Nat → List (Int32 × Int32 × Int64)} {x : Int32 × Int32 × Int64} {k : Nat} : ∀ {n : Nat}, k < n → x ∈ O k → x ∈ lall O n
  | 0, h, _ => absurd h (Nat.not_lt_zero _)
  | n + 1, h, hx => by
    show x ∈ lall O n ++ O n
    by_cases e : k = n
    · subst e; exact List.mem_append_right _ hx
    · exact List.mem_append_left _ (lall_mem (by omega) hx)
section BACKT
variable {kT kI kJ : ClassId} {K K2 : Nat → Nat} {L L2 : List Nat} {f f2 : Nat → va_E} {h : Nat} {fS fC fS2 fC2 : Nat → Int32} {fF fF2 : Nat → Int64} {fR fW fR2 fW2 : Nat → Int32} {A : Nat → Prop} {rho : Nat → Nat} {s : Int32} {ow ow2 : Nat → Nat} {ll : List (Int32 × Int32 × Int64)} {pa : Int32} {n nE nB : Nat} {c : Nat → Int32} {D : Nat → Nat → Option Int64} {R : Nat → Option (Nat × (Nat → Int64))}
theorem cz_frame (hPI : PI kT kI kJ K L f) (hh : isr K L 2 h) (hZ : CZ K L f h ow ll pa) (hO : OWN K2 L2 f2 ow2) (hF : ∀ a k, isr K L k a → ¬ k = 2 → ¬ k = 6 → ¬ k = 5 → f2 a = f a) (hP : PHM f f2 h) : CZ K2 L2 f2 h ow2 ll pa := by
  obtain ⟨z1, z2, z3, z4⟩ := hZ
  obtain ⟨p0, p1, p2, p3, p4, p5, p7⟩ := hP
  refine ⟨hO, ?_, p1.trans z3, by rw [p2, p3, p4]; exact z4⟩
  rw [p2]
  have i1 := (ob_c1r hPI hh).1
  obtain ⟨a, b, d, z, e, ha, hb, hd, hz⟩ := hPI.a0 i1
  refine ls_same (fun q hq => ?_) z2
  rw [li_pn e, li_pd e, li_pv e] at hq
  rcases hq with e7 | e7 | e7 | e7
  · rw [e7]; exact hF _ 0 i1 (by decide) (by decide) (by decide)
  · rw [e7]; exact hF _ 7 ha (by decide) (by decide) (by decide)
  · rw [e7]; exact hF _ 7 hb (by decide) (by decide) (by decide)
  · rw [e7]; exact hF _ 8 hd (by decide) (by decide) (by decide)
theorem ov_frame (hPI : PI kT kI kJ K L f) (hF : ∀ a k, isr K L k a → ¬ k = 2 → ¬ k = 6 → ¬ k = 5 → f2 a = f a) {t : Nat} (ht : isr K L 1 t) : OV f f2 t := ov_of (hF t 1 ht (by decide) (by decide) (by decide)) (hF _ 3 (ow_pv hPI ht) (by decide) (by decide) (by decide)) (fun r hr => hF r 4 (ow_pi hPI ht hr) (by decide) (by decide) (by decide))
theorem call_back (hrS : rgS fS) (hrF : rgF fF) (hrR : rgR fR) (hPI : PI kT kI kJ K L f) (hh : isr K L 2 h) (hT : TIE K L f h fS fC fF fR fW A rho) (hZ : CZ K L f h ow ll pa) (hw : WFd n c D R) (ell : ll = sll n c D R) (hE : EXT K L K2 L2) (h1 : ks_bkh K L f h ll s K2 L2 f2) (h2 : rv_back fS fC fF fR fW ll n nE nB s fS2 fC2 fF2 fR2 fW2) : ∃ A2 rho2 ow2, TIE K2 L2 f2 h fS2 fC2 fF2 fR2 fW2 A2 rho2 ∧ CZ K2 L2 f2 h ow2 ll pa := by
  obtain ⟨ow2, hO2, hno, hok⟩ := h1
  have hlen := (mkl_at hw).1
  have hn24 := hw.1
  have hbk : bkok ll s ↔ ((0 ≤ s.toInt ∧ s.toInt < 12) ∧ ¬ ll = [] ∧ ∀ i, i < n → ¬ badT ll i) ∧ rfcl n (csT ll) ll = 0 := by
    unfold bkok
    subst ell
    rw [fcl_sll hw, tak_sll hw]
    constructor
    · intro q; exact ⟨⟨q.1, q.2.1, q.2.2.1⟩, q.2.2.2⟩
    · intro q; exact ⟨q.1.1, q.1.2.1, q.1.2.2, q.2⟩
  have same : ¬ bkok ll s → (∀ fC3 fF3 fR3 fW3 (B : Nat → Prop), TIE K L f h fS fC3 fF3 fR3 fW3 B rho → TIE K2 L2 f2 h fS fC3 fF3 fR3 fW3 B rho) ∧ CZ K2 L2 f2 h ow2 ll pa := fun q => by
    obtain ⟨q1, q2⟩ := hno q
    have hF : ∀ a k, isr K L k a → ¬ k = 2 → ¬ k = 6 → f2 a = f a := fun a k ha k2 k6 => q1 a ha.1 (isr_ne ha hh k2) (by rw [ha.2]; exact k6)
    refine ⟨fun fC3 fF3 fR3 fW3 B hT3 => hT3.mp hE (fun j _ => ?_) (fun t ht => ov_frame hPI (fun a k ha k2 k6 _ => hF a k ha k2 k6) ht), cz_frame hPI hh hZ hO2 (fun a k ha k2 k6 _ => hF a k ha k2 k6) q2⟩
    unfold g_sl
    rw [q2.1, hF _ 5 (ob_c1r hPI hh).2.2.2 (by decide) (by decide)]
  rcases h2 with ⟨hn, rfl, rfl, rfl, rfl, rfl⟩ | ⟨hg, z, ps, hM, hz, hc⟩
  · have hnb : ¬ bkok ll s := fun q => hn (hbk.mp q).1
    obtain ⟨s1, s2⟩ := same hnb
    exact ⟨A, rho, ow2, s1 _ _ _ _ _ hT, s2⟩
  · have hTm := tie_mark hrS hrF hT hM
    rcases hc with ⟨hr, rfl, -, hsm⟩ | ⟨hr, ⟨v, rfl, hv0, hv⟩, -, hRB⟩
    · have hnb : ¬ bkok ll s := fun q => hr (hbk.mp q).2
      obtain ⟨s1, s2⟩ := same hnb
      exact ⟨_, rho, ow2, s1 _ _ _ _ _ (hTm.ref hrR (fun o ho => hsm o (fun i hi e => ho.2 (by rw [e]; exact hz i hi)))), s2⟩
    · obtain ⟨fm, qs, hMD, e2⟩ := hok (hbk.mpr ⟨hg, hr⟩)
      obtain ⟨⟨hF, hH⟩, hO, ⟨hcn, hm⟩, hinj, hobj⟩ := hMD
      obtain ⟨b1, b2, b3, b4⟩ := hRB
      subst ell
      rw [hlen] at hm hinj hobj hcn
      have hpos : 0 < n := Nat.pos_of_ne_zero (fun e => hg.2.1 ((sll_nil hw).mpr e))
      -- the slot's row
      obtain ⟨q1, pc, c1, c2, c3, q5, fc, q7, mc, e, k1, k2, k3, k4, k5, k6, k7, k8⟩ := hPI.a2 hh
      obtain ⟨g, eg, hgg⟩ := hPI.a5 k1
      have em : fm q1 = .inl (kT, 12, .inr (.inr (.inr (.inr g)))) := by rw [hF q1 k1.1 (isr_ne k1 hh (by decide)) (by rw [k1.2]; decide)]; exact eg
      rw [ob_q1 e, s_R_of em] at e2
      have eo : ∀ a, ¬ a = q1 → f2 a = fm a := fun a ha => by rw [e2, va_up_ne _ _ ha]
      have eh : f2 h = fm h := eo h (isr_ne hh k1 (by decide))
      have hF2 : ∀ a k, isr K L k a → ¬ k = 2 → ¬ k = 6 → ¬ k = 5 → f2 a = f a := fun a k ha k2 k6 k5 => (eo a (isr_ne ha k1 k5)).trans (hF a ha.1 (isr_ne ha hh k2) (by rw [ha.2]; exact k6))
      have hH2 : PHM f f2 h := hH.tr (PHM.of eh)
      have hsl : g_sl f2 h = va_up (g_sl f h) (Int32.toNatClampNeg s) (some (qs 0)) := by
        rw [ob_sl e eg]
        unfold g_sl
        rw [hH2.1, ob_q1 e, e2, va_up_self]
        rfl
      have hob2 : ∀ i, i < n → MDo L f2 qs (csM (mkl (sll n c D R)) i) ((sll n c D R).foldl (fun s x => stV x s) (vsM (mkl (sll n c D R))) i) ((sll n c D R).foldl (fun s x => stN x s) (fun _ _ => none) i) ((sll n c D R).foldl (fun s x => stR x s) (fun _ => none) i) (qs i) := fun i hi => by
        have ho := hobj i hi
        have hq := (hm i hi).2.2
        exact ho.keep (eo _ (fun q => hq (by rw [q]; exact k1.1))) (eo _ (fun q => ho.2.2.2.2.1 (by rw [q]; exact k1.1))) (fun r hr => eo r (fun q => ho.2.2.2.2.2 r hr (by rw [q]; exact k1.1)))
      have hfull : ∀ (w : Int) (i t : Nat), i < n → (sll n c D R).foldl (fun s x => stN x s) (fun _ _ => none) i w = some t → (w = 8 ∨ w = 11 ∨ w = 15) ∧ hs (c i).toInt w = true ∧ t < n ∧ mayI (c t).toInt w := fun w i t hi ht => by
        rw [made_N hw hi w] at ht
        by_cases hwl : w = 8 ∨ w = 11 ∨ w = 15
        · rw [if_pos hwl] at ht
          cases hD : D i w.toNat with
          | none => rw [hD] at ht; cases ht
          | some y =>
            rw [hD] at ht
            have ht : some y.toInt.toNat = some t := ht
            injection ht with ht
            have hh9 := (hw.2 i hi).2.1 w.toNat (by omega) (by rw [hD]; exact fun q => by cases q) (by omega)
            rw [show ((w.toNat : Nat) : Int) = w by omega] at hh9
            have hmem : ((Int32.ofNat i, Int32.ofNat w.toNat, y) : Int32 × Int32 × Int64) ∈ sll n c D R := by
              have hb : ((Int32.ofNat i, Int32.ofNat w.toNat, y) : Int32 × Int32 × Int64) ∈ sbl c D R i := by
                rw [sbl_cons]
                refine List.mem_cons_of_mem _ (lall_mem (k := w.toNat) (by omega) ?_)
                rw [gff_v (by omega), hD]
                exact List.mem_singleton.mpr rfl
              exact lall_mem hi hb
            have h0 := rfcl_all hr _ hmem
            have hwn := ofN (k := w.toNat) (by omega)
            rw [rfd_lk (by omega)] at h0
            by_cases hv9 : 0 ≤ y.toInt ∧ y.toInt < (n : Int)
            · rw [if_pos hv9] at h0
              have htn : t < n := by omega
              refine ⟨hwl, hh9, htn, ?_⟩
              rw [← csT_sll hw htn, ← ht]
              unfold mayI
              by_cases hq : ((Int32.ofNat w.toNat).toInt = 8 ∧ (csT (sll n c D R) y.toInt.toNat).toInt < 3) ∨ (¬ (Int32.ofNat w.toNat).toInt = 8 ∧ (Int32.ofNat w.toNat).toInt = 11 ∧ ((csT (sll n c D R) y.toInt.toNat).toInt = 1 ∨ (csT (sll n c D R) y.toInt.toNat).toInt = 2)) ∨ (¬ (Int32.ofNat w.toNat).toInt = 8 ∧ ¬ (Int32.ofNat w.toNat).toInt = 11 ∧ (csT (sll n c D R) y.toInt.toNat).toInt < 4)
              · rw [show (Int32.ofNat w.toNat).toInt = w by omega] at hq
                exact hq
              · rw [if_neg hq] at h0
                exact absurd h0 (by decide)
            · rw [if_neg hv9] at h0
              exact absurd h0 (by decide)
        · rw [if_neg hwl] at ht
          cases ht
      have hrf : ∀ i, i < n → fC2 (ps i) = csM (mkl (sll n c D R)) i ∧ (0 ≤ (csM (mkl (sll n c D R)) i).toInt ∧ (csM (mkl (sll n c D R)) i).toInt ≤ 4) ∧ (∀ j, j < 17 → ¬ lkf j → ¬ j = 9 → (sll n c D R).foldl (fun s x => stV x s) (vsM (mkl (sll n c D R))) i j = r_vl fC2 fF2 (ps i) j) ∧ (∀ w, r_lk fC2 fF2 (ps i) w = ((sll n c D R).foldl (fun s x => stN x s) (fun _ _ => none) i w).map ps) ∧ reqv ((sll n c D R).foldl (fun s x => stR x s) (fun _ => none) i) (r_rw fC2 fR2 fW2 (ps i)) := fun i hi => by
        obtain ⟨d1, d2, d3, d4, d5⟩ := b4 i hi
        rw [csT_sll hw hi] at d1
        rw [csM_sll hw hi]
        have hci := (hw.2 i hi).1
        refine ⟨d1, hci, fun j hj hl h9 => ?_, fun w => ?_, ?_⟩
        · have hvs := vsM_sll hw hi
          have hts : ks_vals (csT (sll n c D R) i) (tnT (sll n c D R) i) = ks_vals (c i) (tmv (D i)) := by
            rw [csT_sll hw hi, tnT_sll hw hi]
          obtain ⟨v1, v2⟩ := made_V hw hi hj hl h9 hvs
          have v3 := d2 j hj hl h9
          -- both folds start alike at i
          have hst : (sll n c D R).foldl (fun s x => rstV x s) (fun i => ks_vals (csT (sll n c D R) i) (tnT (sll n c D R) i)) i j = (sll n c D R).foldl (fun s x => rstV x s) (vsM (mkl (sll n c D R))) i j := by
            rw [fold_obj hw rstV_lc (fun a v s => if_neg (show ¬ prf (Int32.toInt (-1)) = true by decide)) _ hi, fold_obj hw rstV_lc (fun a v s => if_neg (show ¬ prf (Int32.toInt (-1)) = true by decide)) _ hi, hts, hvs]
          unfold r_vl
          rw [d1]
          by_cases hh9 : hs (c i).toInt (j : Int) = true
          · rw [if_pos hh9, v3, hst]
            exact v1
          · rw [if_neg hh9]
            exact v2 hh9
        · by_cases hwl : (w = 8 ∨ w = 11 ∨ w = 15) ∧ hs (c i).toInt w = true
          · rw [r_lk_of hwl.1 (by rw [d1]; exact hwl.2)]
            have v3 := d3 w.toNat (by unfold lkf; omega)
            rw [show ((w.toNat : Nat) : Int) = w by omega] at v3
            rw [v3]
            cases hN : (sll n c D R).foldl (fun s x => stN x s) (fun _ _ => none) i w with
            | none => exact if_pos (show Int64.toInt (-1) = -1 by decide)
            | some t =>
              obtain ⟨-, -, ht, -⟩ := hfull w i t hi hN
              have hpt := b2 t ht
              have e9 : (lnv ps (some t)).toInt = (ps t : Int) := by
                show (Int32.ofNat (ps t)).toInt64.toInt = _
                rw [Int32.toInt_toInt64, ofN (by omega)]
              rw [e9, if_neg (by omega), Int.toNat_natCast]
              rfl
          · have hnone : (sll n c D R).foldl (fun s x => stN x s) (fun _ _ => none) i w = none := by
              cases hN : (sll n c D R).foldl (fun s x => stN x s) (fun _ _ => none) i w with
              | none => rfl
              | some t =>
                obtain ⟨x1, x2, -, -⟩ := hfull w i t hi hN
                exact absurd ⟨x1, x2⟩ hwl
            rw [hnone]
            unfold r_lk
            rw [d1]
            exact if_neg (fun q => hwl ⟨q.1, q.2.1⟩)
        · obtain ⟨m1, m2⟩ := made_R hw hi (fun i t => fW (20 * ps i + t))
          cases hR : R i with
          | none =>
            obtain ⟨r1, r2⟩ := m1 hR
            rw [r1, r_rw_no (by rw [d4, r2]; decide)]
            exact Or.inl ⟨rfl, rfl⟩
          | some r =>
            obtain ⟨⟨g2, r1, r2⟩, r3, r4⟩ := m2 r hR
            have hrr := (hw.2 i hi).2.2 r hR
            have e9 : (fR2 (ps i)).toInt = (r.1 : Int) := by rw [d4, r3, ofN (by omega)]
            rw [r1, r_rw_is (by rw [d1]; exact hs_iff.mpr (by omega)) (by omega), e9, Int.toNat_natCast]
            refine Or.inr ⟨r.1, g2, _, rfl, rfl, fun t ht => ?_⟩
            show g2 t = fW2 (20 * ps i + t)
            rw [d5 t (by omega), r4 t ht]
            exact r2 t ht
      obtain ⟨rho2, hT2⟩ := tie_batch (n := n) (qs := qs) (ps := ps) (cs := csM (mkl (sll n c D R))) (k := Int32.toNatClampNeg s) (v := v) hrR hTm hE (fun t ht => ov_frame hPI hF2 ht) (fun i hi => ⟨(hm i hi).2.2, (hm i hi).2.1⟩) hinj (fun i hi => ⟨b2 i hi, fun q => q.2 (hz i hi)⟩) b3 b1 (fun i hi => ⟨(hob2 i hi).1, (hob2 i hi).2.1, (hob2 i hi).2.2.1, (hob2 i hi).2.2.2.1⟩) (fun i w t hi ht => by
        obtain ⟨-, -, x3, x4⟩ := hfull w i t hi ht
        exact ⟨x3, by rw [csM_sll hw x3]; exact x4⟩) hrf hpos hsl (by rw [r_ob_some (by omega), hv])
      exact ⟨_, rho2, ow2, hT2, cz_frame hPI hh hZ hO2 hF2 hH2⟩
theorem gi_back (hG : GI fS fC fF nE nB) (h2 : rv_back fS fC fF fR fW ll n nE nB s fS2 fC2 fF2 fR2 fW2) : GI fS2 fC2 fF2 nE (nB + 24) := by
  rcases h2 with ⟨hn, rfl, rfl, rfl, rfl, rfl⟩ | ⟨hg, z, ps, hM, hz, hc⟩
  · exact gi_mono hG (by omega)
  · rcases hc with ⟨hr, -, hG2, -⟩ | ⟨hr, -, hG2, -⟩
    · exact hG2
    · exact hG2
end BACKT


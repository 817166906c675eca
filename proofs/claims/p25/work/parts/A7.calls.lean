-- CALL BY CALL, second part: rows, passes, make
section CALLS2
variable {kT kI kJ : ClassId} {K K2 : Nat → Nat} {L L2 : List Nat} {f f2 : Nat → va_E} {h : Nat} {fS fC fS2 fC2 : Nat → Int32} {fF fF2 : Nat → Int64} {fR fW fR2 : Nat → Int32} {A : Nat → Prop} {rho : Nat → Nat} {s t w i v n c : Int32} {ow : Nat → Nat} {ll : List (Int32 × Int32 × Int64)} {pa : Int32}
theorem r_rw_no {o : Nat} (hn : (fR o).toInt = -1) : r_rw fC fR fW o = none := if_neg (fun q => q.2 hn)
theorem r_rw_is {o : Nat} (h9 : hs (fC o).toInt 9 = true) (hn : ¬ (fR o).toInt = -1) : r_rw fC fR fW o = some ((fR o).toInt.toNat, fun i => fW (20 * o + i)) := if_pos ⟨h9, hn⟩
theorem call_put (hrR : rgR fR) (hPI : PI kT kI kJ K L f) (hh : isr K L 2 h) (hT : TIE K L f h fS fC fF fR fW A rho) (hZ : CZ K L f h ow ll pa) (e2 : f2 = (ks_put f h s i v).1) : (ks_put f h s i v).2 = rs_put fS fC fR fW s i ∧ TIE K L f2 h fS fC fF fR (rw_put fS fC fR fW s i v) A rho ∧ CZ K L f2 h ow ll pa := by
  unfold ks_put at e2 ⊢
  unfold rs_put rw_put
  by_cases hp : 0 ≤ s.toInt ∧ s.toInt < 12
  · rw [if_pos hp] at e2
    rw [if_pos hp, if_pos hp, if_pos hp]
    rcases hT.sl hp with ⟨a1, a2⟩ | ⟨a1, a2, a3⟩
    · rw [a2] at e2 ⊢
      rw [if_pos a1, if_pos a1, e2]
      exact ⟨rfl, hT, hZ⟩
    · rw [a2] at e2 ⊢
      rw [if_neg a1, if_neg a1]
      obtain ⟨c1, c2⟩ := hT.cn a3
      have hr := hT.rw a3
      have hlt := (hT.2.2.1 _ a3).1
      have hx := (hT.2.2.1 _ a3).2.1
      generalize he : Int32.toNatClampNeg (fS (Int32.toNatClampNeg s)) = o at *
      simp only [c1] at e2 ⊢
      by_cases hq : (fC o).toInt ≤ 2
      · rw [if_pos (show 0 ≤ (fC o).toInt ∧ (fC o).toInt ≤ 2 by omega)] at e2
        rw [if_pos (show 0 ≤ (fC o).toInt ∧ (fC o).toInt ≤ 2 by omega), if_pos (show (fC o).toInt = 0 ∨ (fC o).toInt = 1 ∨ (fC o).toInt = 2 by omega), if_pos (show (fC o).toInt = 0 ∨ (fC o).toInt = 1 ∨ (fC o).toInt = 2 by omega)]
        have h9 : hs (fC o).toInt 9 = true := hs_iff.mpr (by omega)
        by_cases hn : (fR o).toInt = -1
        · rw [if_pos hn, if_pos hn]
          rw [r_rw_no hn] at hr
          rcases hr with ⟨e, -⟩ | ⟨m, g, g2, -, e, -⟩
          · rw [e] at e2 ⊢
            rw [e2]
            exact ⟨rfl, hT, hZ⟩
          · cases e
        · rw [if_neg hn, if_neg hn]
          rw [r_rw_is h9 hn] at hr
          rcases hr with ⟨-, e⟩ | ⟨m, g, g2, e1, e3, e4⟩
          · cases e
          · cases e3
            have hb := hrR o hlt
            simp only [e1] at e2 ⊢
            by_cases hi : 0 ≤ i.toInt ∧ i.toInt < (fR o).toInt
            · have hi2 : 0 ≤ i.toInt ∧ i.toInt < ((fR o).toInt.toNat : Int) := by omega
              have hci := clamp_int hi.1
              rw [if_pos hi2] at e2
              rw [if_pos hi2, if_pos hi, if_pos hi]
              obtain ⟨u1, u2, u3, u4, u5, u6⟩ := rw_up hPI hZ.1 hx e1 e2
              refine ⟨e4 _ (by omega), ?_, hZ.fr hPI hh u1 rfl rfl rfl rfl rfl⟩
              refine tie_row hrR hT a3 EXT.rf (fun j _ => by rw [sl_fr hPI hh u1 rfl rfl]) u2 u3 u4 u5 (fun o2 ho2 => ⟨rfl, fun q hq => by rw [pk_un (by omega)]⟩) ?_
              rw [u6, r_rw_is h9 hn]
              refine Or.inr ⟨_, _, _, rfl, rfl, fun q hq => ?_⟩
              by_cases e : q = Int32.toNatClampNeg i
              · rw [e, pk_us]
                show v = upd fW (20 * o + Int32.toNatClampNeg i) v (20 * o + Int32.toNatClampNeg i)
                rw [pk_us]
              · rw [pk_un e]
                show g q = upd fW (20 * o + Int32.toNatClampNeg i) v (20 * o + q)
                rw [pk_un (by omega)]
                exact e4 q hq
            · have hi2 : ¬ (0 ≤ i.toInt ∧ i.toInt < ((fR o).toInt.toNat : Int)) := by omega
              rw [if_neg hi2] at e2
              rw [if_neg hi2, if_neg hi, if_neg hi, e2]
              exact ⟨rfl, hT, hZ⟩
      · rw [if_neg (show ¬ (0 ≤ (fC o).toInt ∧ (fC o).toInt ≤ 2) by omega)] at e2
        rw [if_neg (show ¬ (0 ≤ (fC o).toInt ∧ (fC o).toInt ≤ 2) by omega), if_neg (show ¬ ((fC o).toInt = 0 ∨ (fC o).toInt = 1 ∨ (fC o).toInt = 2) by omega), if_neg (show ¬ ((fC o).toInt = 0 ∨ (fC o).toInt = 1 ∨ (fC o).toInt = 2) by omega), e2]
        exact ⟨rfl, hT, hZ⟩
  · rw [if_neg hp] at e2
    rw [if_neg hp, if_neg hp, if_neg hp, e2]
    exact ⟨rfl, hT, hZ⟩
theorem call_passes (hPI : PI kT kI kJ K L f) (hh : isr K L 2 h) (hT : TIE K L f h fS fC fF fR fW A rho) (hZ : CZ K L f h ow ll pa) (e2 : f2 = (ks_passes f h s n).1) : (ks_passes f h s n).2 = rs_passes fS fC fF s n ∧ TIE K L f2 h fS fC fF fR fW A rho ∧ CZ K L f2 h ow ll (rw_passes pa s n) := by
  unfold ks_passes at e2 ⊢
  unfold rs_passes rw_passes
  by_cases hp : (0 ≤ s.toInt ∧ s.toInt < 12) ∧ 1 ≤ n.toInt ∧ n.toInt ≤ 12
  · rw [if_pos hp] at e2
    rw [if_pos hp, if_pos hp, if_pos hp]
    obtain ⟨u1, u2, u3, u4, u5, u6⟩ := pc_up hPI hh e2
    have hsl : g_sl f2 h = g_sl f h := by
      unfold g_sl
      rw [u3, fr_at u1 (ob_c1r hPI hh).2.2.2 rfl]
    have hov : ∀ t, isr K L 1 t → OV f f2 t := fun t ht => ov_fr hPI u1 rfl rfl rfl ht
    have hT2 : TIE K L f2 h fS fC fF fR fW A rho := hT.mp EXT.rf (fun j _ => by rw [hsl]) hov
    refine ⟨?_, hT2, own_fr u1 rfl rfl hZ.1, by rw [u4]; exact ls_fr hPI u1 rfl rfl rfl (ob_c1r hPI hh).1 hZ.2.1, u2, by rw [u4, u5, u6]; exact hZ.2.2.2⟩
    have h1 := tie_raise (s := s) hT2
    rw [← h1]
    unfold ks_raise
    rw [if_pos hp.1, e2]
  · rw [if_neg hp] at e2
    rw [if_neg hp, if_neg hp, if_neg hp, e2]
    exact ⟨rfl, hT, hZ⟩
/-- the class's state, where cells were added and one object changed -/
theorem CZ.n1 {q y kk : Nat} (hPI : PI kT kI kJ K L f) (hh : isr K L 2 h) (hy : isr K L 1 y) (hq : q ∉ L) (hk : ¬ kk = 0 ∧ ¬ kk = 1) (ho : ∀ a, a ∈ L → ¬ a = y → f2 a = f a) (e1 : cP (f2 y) 1 = cP (f y) 1) (e5 : cR (f2 y) 5 = some q) (hZ : CZ K L f h ow ll pa) : CZ (va_up K q kk) (q :: L) f2 h (va_up ow q y) ll pa := by
  obtain ⟨z1, z2, z3, z4⟩ := hZ
  have eK : ∀ k a, isr K L k a → ¬ k = 1 → f2 a = f a := fun k a ha hk => ho a ha.1 (isr_ne ha hy hk)
  have eh := eK 2 h hh (by decide)
  have hfr : FR (sK [1]) K L f f2 := fun a ha hk => ho a ha (fun q => by rw [q, hy.2] at hk; cases hk)
  have hback : ∀ k z, isr (va_up K q kk) (q :: L) k z → ¬ k = kk → isr K L k z := fun k z hz hk => by
    obtain ⟨y1, y2⟩ := hz
    have n1 : z ≠ q := fun e9 => by rw [e9, va_up_self] at y2; exact hk y2.symm
    rw [va_up_ne _ _ n1] at y2
    rcases List.mem_cons.mp y1 with e | y1
    · exact absurd e n1
    · exact ⟨y1, y2⟩
  refine ⟨⟨fun b hb => ?_, fun b hb => ?_⟩, ?_, ?_, ?_⟩
  · have hb2 := hback 0 b hb (by omega)
    obtain ⟨a1, b1, d1, z0, ey, ha1, hb1, hd1, _⟩ := hPI.a0 hb2
    have o := z1.1 b hb2
    rw [eK 0 b hb2 (by decide)]
    rw [li_pn ey, li_pd ey, li_pv ey] at o ⊢
    rw [va_up_ne _ _ (ne_of ha1.1 hq), va_up_ne _ _ (ne_of hb1.1 hq), va_up_ne _ _ (ne_of hd1.1 hq)]
    exact o
  · have hb2 := hback 1 b hb (by omega)
    have o := z1.2 b hb2
    by_cases e : b = y
    · subst e
      rw [e1, e5]
      refine ⟨by rw [va_up_ne _ _ (ne_of (ow_pv hPI hb2).1 hq)]; exact o.1, fun r hr => ?_⟩
      cases hr
      exact va_up_self _ _ _
    · rw [ho b hb2.1 e, va_up_ne _ _ (ne_of (ow_pv hPI hb2).1 hq)]
      exact ⟨o.1, fun r hr => by rw [va_up_ne _ _ (ne_of (ow_pi hPI hb2 hr).1 hq)]; exact o.2 r hr⟩
  · rw [eh]; exact ls_fr hPI hfr rfl rfl rfl (ob_c1r hPI hh).1 z2
  · rw [eh]; exact z3
  · rw [eh]; exact z4
theorem call_row (hrR : rgR fR) (hPI : PI kT kI kJ K L f) (hh : isr K L 2 h) (hT : TIE K L f h fS fC fF fR fW A rho) (hZ : CZ K L f h ow ll pa) (hE : EXT K L K2 L2) (hr : ks_rwh kI K L f h s n K2 L2 f2) : ks_rw (g_sl f h) (g_cn f) s n = rs_row fS fC s n ∧ TIE K2 L2 f2 h fS fC fF (rw_rowR fS fC fR s n) (rw_rowW fS fC fW s n) A rho ∧ ∃ ow2, CZ K2 L2 f2 h ow2 ll pa := by
  have hans : ks_rw (g_sl f h) (g_cn f) s n = rs_row fS fC s n := by
    unfold ks_rw rs_row
    by_cases hp : (0 ≤ s.toInt ∧ s.toInt < 12) ∧ n.toInt ≤ 20
    · rw [if_pos hp, if_pos hp]
      rcases hT.sl hp.1 with ⟨a1, a2⟩ | ⟨a1, a2, a3⟩
      · simp only [a2]
        rw [if_neg (show ¬ (¬ (fS (Int32.toNatClampNeg s)).toInt = -1 ∧ ¬ ((fC (Int32.toNatClampNeg (fS (Int32.toNatClampNeg s)))).toInt = 0 ∨ (fC (Int32.toNatClampNeg (fS (Int32.toNatClampNeg s)))).toInt = 1 ∨ (fC (Int32.toNatClampNeg (fS (Int32.toNatClampNeg s)))).toInt = 2)) by omega), if_pos a1]
      · obtain ⟨c1, c2⟩ := hT.cn a3
        simp only [a2, c1]
        generalize he : Int32.toNatClampNeg (fS (Int32.toNatClampNeg s)) = o at *
        (repeat' split) <;> first | rfl | (exfalso; omega)
    · rw [if_neg hp, if_neg hp]
  refine ⟨hans, ?_⟩
  rcases hr with ⟨hno, rfl, rfl, rfl⟩ | ⟨x, ⟨x1, x2, x3, x4⟩, hc⟩
  · have e1 : rw_rowR fS fC fR s n = fR ∧ rw_rowW fS fC fW s n = fW := by
      unfold rw_rowR rw_rowW
      by_cases hp : (0 ≤ s.toInt ∧ s.toInt < 12) ∧ n.toInt ≤ 20
      · rw [if_pos hp, if_pos hp]
        rcases hT.sl hp.1 with ⟨a1, a2⟩ | ⟨a1, a2, a3⟩
        · constructor <;> (repeat' split) <;> first | rfl | (exfalso; omega)
        · obtain ⟨c1, c2⟩ := hT.cn a3
          have hno := hno _ hp.1 a2 hp.2
          rw [c1] at hno
          generalize he : Int32.toNatClampNeg (fS (Int32.toNatClampNeg s)) = o at *
          constructor <;> (repeat' split) <;> first | rfl | (exfalso; omega)
      · rw [if_neg hp, if_neg hp]
        exact ⟨rfl, rfl⟩
    rw [e1.1, e1.2]
    exact ⟨hT, ow, hZ⟩
  · rcases hT.sl x1 with ⟨a1, a2⟩ | ⟨a1, a2, a3⟩
    · rw [a2] at x2; cases x2
    · rw [a2] at x2
      cases x2
      obtain ⟨c1, c2⟩ := hT.cn a3
      rw [c1] at x4
      have hx := (hT.2.2.1 _ a3).2.1
      have hlt := (hT.2.2.1 _ a3).1
      unfold rw_rowR rw_rowW
      have hx0 : (0 ≤ s.toInt ∧ s.toInt < 12) ∧ n.toInt ≤ 20 := ⟨x1, x3⟩
      rw [if_pos hx0, if_pos hx0]
      generalize he : Int32.toNatClampNeg (fS (Int32.toNatClampNeg s)) = o at *
      have hnn : ¬ (n.toInt < 0 ∧ ¬ n.toInt = -4) := by
        rcases hc with ⟨q, -⟩ | ⟨q, -⟩ <;> omega
      rw [if_neg (show ¬ (¬ (fS (Int32.toNatClampNeg s)).toInt = -1 ∧ ¬ ((fC o).toInt = 0 ∨ (fC o).toInt = 1 ∨ (fC o).toInt = 2)) by omega), if_neg hnn, if_neg a1, if_neg (show ¬ (¬ (fS (Int32.toNatClampNeg s)).toInt = -1 ∧ ¬ ((fC o).toInt = 0 ∨ (fC o).toInt = 1 ∨ (fC o).toInt = 2)) by omega), if_neg hnn, if_neg a1]
      have hoth : ∀ (vv : Int32) (o2 : Nat), ¬ o2 = o → upd fR o vv o2 = fR o2 ∧ ∀ i, i < 20 → wip fW (20 * o) (Int32.toNatClampNeg n) (20 * o2 + i) = fW (20 * o2 + i) := fun vv o2 ho2 => ⟨pk_un ho2, fun i hi => by
        unfold wip
        have hcn : Int32.toNatClampNeg n ≤ 20 := by
          show n.toInt.toNat ≤ 20
          omega
        exact if_neg (by omega)⟩
      have h9 : hs (fC o).toInt 9 = true := hs_iff.mpr (by omega)
      rcases hc with ⟨n4, rfl, rfl, e2⟩ | ⟨n0, q, ⟨hq, rfl, rfl⟩, e2⟩
      · obtain ⟨u1, u2, u3, u4, u5, u6, u7, u8⟩ := rw_no hPI hx e2
        refine ⟨?_, ow, hZ.s1 hPI hh hx u2 u7 (fun r hr => by rw [u8] at hr; cases hr)⟩
        refine tie_row hrR hT a3 EXT.rf (fun j _ => by rw [sl_fr hPI hh u1 rfl rfl]) (fun b hb hne => ov_s1 hPI hx u2 hb hne) u3 u4 u5 (hoth _) ?_
        rw [u6, if_pos n4, r_rw_no (by rw [pk_us]; decide)]
        exact Or.inl ⟨rfl, rfl⟩
      · obtain ⟨u1, u2, u3, u4, u5, u6, u7⟩ := rw_new hPI hx hq e2
        have eh := u1 h hh.1 (isr_ne hh hx (by decide))
        refine ⟨?_, va_up ow q (rho o), hZ.n1 hPI hh hx hq (by decide) u1 u6 u7⟩
        refine tie_row hrR hT a3 hE (fun j _ => ?_) (fun b hb hne => ov_of (u1 b hb.1 hne) (u1 _ (ow_pv hPI hb).1 (isr_ne (ow_pv hPI hb) hx (by decide))) (fun r hr => u1 r (ow_pi hPI hb hr).1 (isr_ne (ow_pi hPI hb hr) hx (by decide)))) u2 u3 u4 (hoth _) ?_
        · unfold g_sl
          rw [eh, u1 _ (ob_c1r hPI hh).2.2.2.1 (isr_ne (ob_c1r hPI hh).2.2.2 hx (by decide))]
        · rw [u5, if_neg (by omega)]
          rw [r_rw_is h9 (by rw [pk_us]; omega), pk_us]
          refine Or.inr ⟨Int32.toNatClampNeg n, _, _, rfl, rfl, fun i hi => ?_⟩
          show 0 = wip fW (20 * o) (Int32.toNatClampNeg n) (20 * o + i)
          unfold wip
          rw [if_pos (by omega)]
end CALLS2


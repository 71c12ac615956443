section STEP3
variable {X c : Nat} {m : Mem}
theorem op_step (h : Inv X c m) (hc : c ≤ 4096) (a : Int32) : ∃ r m1 m2, cl 3 X (f_X3_step X a) m = some (r, m1) ∧ cl 4 (X + 12) (f_X4_step (X + 12) a) m1 = some (r, m2) ∧ Inv X (c + 1) m2 := by
  have hI := h
  have hL := h.1
  obtain ⟨-, hw, nS, nn, us, od, sa, sz, num, ti, rk, rv, lv, v, nM, mk, loc, tt, gn, ca, hIS, hIL, ⟨gp, gt, gw, gl, ga, gg, wk, wi, nk, nv, nt, hRG, hWG⟩, hID⟩ := h
  obtain ⟨s1, s2, s3, s4, s5, F, rn, wn⟩ := id hIS
  obtain ⟨l1, l2, l3, l4, l5, l6, l7⟩ := id hIL
  have h20 := s3.1
  have hX := hL.1
  have hL0 : SL X (setI m (X + 12) 0 0) := hL
  rcases in_spec a (lo := 0) (hi := 1000) 0 1001 rfl rfl (by decide) (setI m (X + 12) 0 0) with ⟨n, -, hn, rfl, -⟩ | ⟨hn, e⟩
  rotate_left
  · refine op_q hI ⟨-2, ?_, ?_⟩
    · unfold f_X3_step
      by_cases h0 : a < 0
      · rw [i_t h0]; rfl
      · obtain ⟨j, hj, rfl⟩ := nI_of h0
        have : ¬ j < 1001 := fun q => hn j (by omega) q rfl
        rw [i_f h0, i_f (show ¬ nI j ≤ (1000 : Int32) from fun q => by
          have := (nI_leI (a := j) (b := 1000) hj (by decide)).mp q
          omega)]; rfl
    · unfold f_X4_step
      rw [q_pI12 hL, b_eq e, i_t (by rfl)]; rfl
  have ein : ∀ mq, f_X4_in (nI n) 0 1000 mq = some (1, mq) := fun mq => by
    rcases in_spec (nI n) (lo := 0) (hi := 1000) 0 1001 rfl rfl (by decide) mq with ⟨u, -, -, -, e⟩ | ⟨e, -⟩
    · exact e
    · exact absurd rfl (e n (by omega) hn)
  have nle : nI n ≤ (1000 : Int32) := (nI_leI (a := n) (b := 1000) (by omega) (by decide)).mpr (by omega)
  have nlt : ¬ nI n < 0 := nI_lt0 (by omega)
  by_cases hg0 : gn = 0
  · refine op_q hI ⟨-3, ?_, ?_⟩
    · unfold f_X3_step
      rw [i_f nlt, i_t nle, q_gR0 hL, hRG.2.1 hg0]; rfl
    · unfold f_X4_step
      rw [q_pI12 hL, b_eq (ein _), i_f n10, q_gI12 hL0, mI_setI, if_neg (by omega), hRG.1, hg0, i_t (by rfl)]; rfl
  obtain ⟨htt, hW⟩ := hWG
  rcases hW with hW | ⟨⟨hg2, hg6, hgS⟩, w2, ⟨hc1, hc2, hc3⟩, w3⟩
  · exact absurd hW hg0
  obtain ⟨r19, -, r3⟩ := hRG
  obtain ⟨e7, eMg, ⟨e20, e21, e22⟩, eK, eN⟩ := r3 (by omega)
  have hsrc : ∀ k, k < gn → us (od (gp + k)) = true := fun k hk => (s3.2.1 (gp + k) (by omega)).2
  have hWT : WT gn gt gw gl (fun k => sz (od (gp + k))) ga (fun k => rk (od (gp + k))) (fun k => rv (od (gp + k))) (fun k => lv (od (gp + k))) gg wk wi nk nv nt tt := ⟨w2, w3⟩
  have hWZ : WZ gn (fun k => sz (od (gp + k))) (fun k => rk (od (gp + k))) (fun k => lv (od (gp + k))) := by
    refine ⟨fun k hk => s4 _ (hsrc k hk), fun k i r j hk hi hr hj h1 h2 e => ?_⟩
    have x1 := l7.2.1 _ i (hsrc k hk) hi h1
    have x2 := l7.2.1 _ j (hsrc r hr) hj h2
    have e' : rk (od (gp + k)) i = rk (od (gp + r)) j := e
    rw [e', x2] at x1
    have y1 := congrArg Prod.fst (Option.some.inj x1)
    have y2 := congrArg Prod.snd (Option.some.inj x1)
    have y3 := s3.2.2.1 (gp + r) (gp + k) (by omega) (by omega) y1
    have y4 : j = i := y2
    exact ⟨by omega, y4.symm⟩
  have hWX : WX X ca gp gn (fun k => sa (od (gp + k))) := by
    refine ⟨hg6, by omega, hc1, fun k hk => ⟨(s5.1 _ (hsrc k hk)).1, hc3 _ (hsrc k hk)⟩, fun k r hk hr hne => s5.2 _ _ (hsrc k hk) (hsrc r hr) (fun e => ?_)⟩
    have := s3.2.2.1 (gp + k) (gp + r) (by omega) (by omega) e
    omega
  have hC : CM X ca gp gn gt gw gl (fun k => sa (od (gp + k))) (fun k => num (od (gp + k))) (fun k => ti (od (gp + k))) (fun k => sz (od (gp + k))) ga (fun k => rk (od (gp + k))) (fun k => rv (od (gp + k))) (fun k => lv (od (gp + k))) gg m := ⟨hL, e7, eMg, fun k hk => ⟨fun i hi => ((eK k hk).2 i hi).2, (s2 _ (hsrc k hk)).1, (l5 _ (hsrc k hk)).1⟩⟩
  have hQ : QM X gp gn gt gw (fun k => od (gp + k)) (fun k => num (od (gp + k))) (fun k => ti (od (gp + k))) (fun k => sz (od (gp + k))) ga (fun k => rk (od (gp + k))) (fun k => rv (od (gp + k))) (fun k => lv (od (gp + k))) gg nk nv nt tt m := ⟨hL, ⟨r19, e20, e21, e22⟩, fun k hk => ⟨⟨(eK k hk).1, fun i hi => ((eK k hk).2 i hi).1⟩, ⟨(s1.2.1 (gp + k) (by omega)).2, (s3.2.1 (gp + k) (by omega)).1⟩, (s2 _ (hsrc k hk)).2, (l5 _ (hsrc k hk)).2⟩, eN, fun a ha => (l6 a ha).1⟩
  obtain ⟨t', gt', gw', gl', ga', gg', wk', wi', nk', nv', nt', hWT', hCx, hQx⟩ := step_xq (X := X) (ca := ca) (gp := gp) (A := fun k => sa (od (gp + k))) (O := fun k => od (gp + k)) (N := fun k => num (od (gp + k))) (T := fun k => ti (od (gp + k))) (n := n) (by omega) hWZ hWX n 2100 2100 0 gt gw gl ga gg wk wi nk nv nt (by omega) (by omega) (by omega) hWT
  obtain ⟨mC, c1, c2, c3⟩ := hCx m hC
  have hLC : SL X mC := c2.1
  have hgl := gl_le hWT' hWZ hg6
  have hneg : ¬ nI gn = 0 := nI_ne0 (by omega) (by omega)
  have stC : ∀ b j, b < X + 37 → mI mC b j = mI m b j := fun b j hb => c3.2.2.2.2 _ _ (fun q => by
    rcases q with q | q | ⟨k, hk, q⟩
    · omega
    · omega
    · have := (s5.1 _ (hsrc k hk)).1
      have q' : b = sa (od (gp + k)) + 4 := q
      omega)
  by_cases hl0 : gl' = 0
  · subst hl0
    have hge : ∀ k, k < gn → ga' k = sz (od (gp + k)) := fun k hk => by
      have x1 := hWT'.1.1 k hk
      have x2 : 0 = sumF (fun k => sz (od (gp + k)) - ga' k) gn := hWT'.1.2.2
      have x3 := sum_ge (f := fun k => sz (od (gp + k)) - ga' k) hk
      have x1' : ga' k ≤ sz (od (gp + k)) := x1
      have x3' : sz (od (gp + k)) - ga' k ≤ sumF (fun k => sz (od (gp + k)) - ga' k) gn := x3
      omega
    obtain ⟨m1, d1, hL1, d2, d3⟩ := end_both hc hL hw hIS hIL htt ⟨hg2, hg6, hgS⟩ ⟨hc1, hc2, hc3⟩ hWX hWZ (WT_ga hWT' hge) (CM_ga c2 hge) c3
    have hLt : SL X (setI m1 (X + 12) 0 0) := hL1
    obtain ⟨mQ, q1, q2, q3⟩ := hQx (setI m1 (X + 12) 0 0) (QM_tr hQ hLt (fun b j h1 h2 h3 => by rw [mI_setI, if_neg h3]; exact d2 b j h1 h2))
    obtain ⟨m2, f1, f2⟩ := d3 mQ (QM_ga q2 hge) (Ag.setI.trans q3)
    refine ⟨nI t', m1, m2, ?_, ?_, f2⟩
    · rw [q_ce0 hL]
      unfold f_X3_step
      rw [i_f nlt, i_t nle, q_gR0 hL, e7]
      show bnd _ _ m = _
      rw [b_eq (show f_X3_step_L26 2100 X (nI n) 0 m = _ from c1), q_gR0 hLC, c2.2.1]
      show bnd _ _ mC = _
      rw [b_gI c2.2.2.1.1.1, c2.2.2.1.2.1.2.2.2, i_t (by rfl), q_gR0 hLC, c2.2.1]
      show bnd _ _ mC = _
      rw [q_cl0 hLC, b_eq d1]; rfl
    · rw [q_ce12 hL1]
      unfold f_X4_step
      have h19 : mI (setI m1 (X + 12) 0 0) (X + 12) 19 = nI gn := by rw [mI_setI, if_neg (by omega), d2 _ _ (by omega) (by omega)]; exact r19
      rw [q_pI12 hL1, b_eq (ein _), i_f n10, q_gI12 hLt, h19, i_f hneg, b_eq (show f_X4_step_L31 2100 (X + 12) (nI n) 0 _ = _ from q1), q_cl12 q2.1, b_eq (left_q q2 hg6 (by omega) hWT'.1.1), ← hWT'.1.2.2, i_t (by rfl), q_cl12 q2.1, b_eq f1]; rfl
  · have hLt : SL X (setI mC (X + 12) 0 0) := hLC
    obtain ⟨m2, q1, q2, q3⟩ := hQx (setI mC (X + 12) 0 0) (QM_tr hQ hLt (fun b j h1 h2 h3 => by rw [mI_setI, if_neg h3, stC b j h2]))
    refine ⟨nI t', mC, m2, ?_, ?_, ?_⟩
    · rw [q_ce0 hL]
      unfold f_X3_step
      rw [i_f nlt, i_t nle, q_gR0 hL, e7]
      show bnd _ _ m = _
      rw [b_eq (show f_X3_step_L26 2100 X (nI n) 0 m = _ from c1), q_gR0 hLC, c2.2.1]
      show bnd _ _ mC = _
      rw [b_gI c2.2.2.1.1.1, c2.2.2.1.2.1.2.2.2, i_f (nI_ne0 (by omega) (by omega))]; rfl
    · rw [q_ce12 hLC]
      unfold f_X4_step
      have h19 : mI (setI mC (X + 12) 0 0) (X + 12) 19 = nI gn := by rw [mI_setI, if_neg (by omega), stC _ _ (by omega)]; exact r19
      rw [q_pI12 hLC, b_eq (ein _), i_f n10, q_gI12 hLt, h19, i_f hneg, b_eq (show f_X4_step_L31 2100 (X + 12) (nI n) 0 _ = _ from q1), q_cl12 q2.1, b_eq (left_q q2 hg6 (by omega) hWT'.1.1), ← hWT'.1.2.2, i_f (nI_ne0 (by omega) (by omega))]; rfl
    · exact Inv_step hL hw hIS hIL hID htt ⟨hg2, hg6, hgS⟩ ⟨hc1, hc2, hc3⟩ hWT' c2 q2 c3 (Ag.setI.trans q3)
end STEP3

/-! step -/
section STEP
variable {X c : Nat} {m m2 : Mem}
section CONG
variable {ca gp gn gt gw gl : Nat} {A O N T Z ga ga2 : Nat → Nat} {R : Nat → Nat → Nat} {V : Nat → Nat → Int32} {Lv : Nat → Nat → Bool} {gg : Nat → Nat → Int32} {wk wi nk : Nat → Nat} {nv : Nat → Int32} {nt tt : Nat → Nat}
theorem WT_ga (h : WT gn gt gw gl Z ga R V Lv gg wk wi nk nv nt tt) (e : ∀ k, k < gn → ga k = ga2 k) : WT gn gt gw gl Z ga2 R V Lv gg wk wi nk nv nt tt := by
  obtain ⟨⟨a1, a2, a3⟩, b2, b3, b4, b5, b6, b7⟩ := h
  refine ⟨⟨fun k hk => by rw [← e k hk]; exact a1 k hk, by rw [a2]; exact sumF_congr e, by rw [a3]; exact sumF_congr (fun k hk => by rw [e k hk])⟩, fun k i hk hi => b2 k i hk (by rw [e k hk]; exact hi), fun j hj => ?_, b4, fun k i r j hk hi hr hj => b5 k i r j hk (by rw [e k hk]; exact hi) hr (by rw [e r hr]; exact hj), fun j k i hj hk h1 => b6 j k i hj hk (by rw [e k hk]; exact h1), fun k i hk hi => b7 k i hk (by rw [e k hk]; exact hi)⟩
  obtain ⟨x1, x2, x3⟩ := b3 j hj
  exact ⟨x1, by rw [← e _ x1]; exact x2, x3⟩
theorem CM_ga (h : CM X ca gp gn gt gw gl A N T Z ga R V Lv gg m) (e : ∀ k, k < gn → ga k = ga2 k) : CM X ca gp gn gt gw gl A N T Z ga2 R V Lv gg m := by
  obtain ⟨h1, h2, ⟨h3, h4, h5⟩, h6⟩ := h
  exact ⟨h1, h2, ⟨h3, h4, fun k hk => by rw [← e k hk]; exact h5 k hk⟩, fun k hk => ⟨fun i hi => (h6 k hk).1 i (by rw [e k hk]; exact hi), (h6 k hk).2⟩⟩
theorem QM_ga (h : QM X gp gn gt gw O N T Z ga R V Lv gg nk nv nt tt m) (e : ∀ k, k < gn → ga k = ga2 k) : QM X gp gn gt gw O N T Z ga2 R V Lv gg nk nv nt tt m := by
  obtain ⟨h1, h2, h3, h4⟩ := h
  exact ⟨h1, h2, fun k hk => ⟨⟨by rw [← e k hk]; exact (h3 k hk).1.1, fun i hi => (h3 k hk).1.2 i (by rw [e k hk]; exact hi)⟩, (h3 k hk).2⟩, h4⟩
theorem QM_tr (h : QM X gp gn gt gw O N T Z ga R V Lv gg nk nv nt tt m) (hL : SL X m2) (e : ∀ b j, X + 12 ≤ b → b < X + 37 → ¬ (b = X + 12 ∧ j = 0) → mI m2 b j = mI m b j) : QM X gp gn gt gw O N T Z ga R V Lv gg nk nv nt tt m2 := by
  obtain ⟨h1, ⟨i19, i20, i21, i22⟩, h3, h4, h5⟩ := h
  refine ⟨hL, ⟨by rw [e _ _ (by omega) (by omega) (by omega)]; exact i19, by rw [e _ _ (by omega) (by omega) (by omega)]; exact i20, by rw [e _ _ (by omega) (by omega) (by omega)]; exact i21, by rw [e _ _ (by omega) (by omega) (by omega)]; exact i22⟩, fun k hk => ?_, fun j hj => ?_, fun a ha => by rw [e _ _ (by omega) (by omega) (by omega)]; exact h5 a ha⟩
  · obtain ⟨⟨j1, j2⟩, ⟨j3, j4⟩, ⟨⟨j5, j6, j7⟩, j8⟩, j9⟩ := h3 k hk
    refine ⟨⟨by rw [e _ _ (by omega) (by omega) (by omega)]; exact j1, fun i hi => by rw [e _ _ (by omega) (by omega) (by omega)]; exact j2 i hi⟩, ⟨by rw [e _ _ (by omega) (by omega) (by omega)]; exact j3, j4⟩, ⟨⟨by rw [e _ _ (by omega) (by omega) (by omega)]; exact j5, by rw [e _ _ (by omega) (by omega) (by omega)]; exact j6, by rw [e _ _ (by omega) (by omega) (by omega)]; exact j7⟩, fun i hi => ?_⟩, fun i hi => ?_⟩
    · rw [e _ _ (by omega) (by omega) (by omega), e _ _ (by omega) (by omega) (by omega)]; exact j8 i hi
    · rw [e _ _ (by omega) (by omega) (by omega)]; exact j9 i hi
  · rw [e _ _ (by omega) (by omega) (by omega), e _ _ (by omega) (by omega) (by omega), e _ _ (by omega) (by omega) (by omega)]; exact h4 j hj
end CONG
theorem Inv_step {nS nn : Nat} {us : Nat → Bool} {od sa sz num ti : Nat → Nat} {rk : Nat → Nat → Nat} {rv : Nat → Nat → Int32} {lv : Nat → Nat → Bool} {v : Nat → Int32} {nM : Nat} {mk : Nat → Nat} {loc : Nat → Option (Nat × Nat)} {tt : Nat → Nat} {gn gp gt gw gl ca : Nat} {ga : Nat → Nat} {gg : Nat → Nat → Int32} {wk wi nk : Nat → Nat} {nv : Nat → Int32} {nt : Nat → Nat} {mC : Mem}
    (hL : SL X m) (hw : IW X m) (hIS : IS X c nS nn us od sa sz num ti rk rv m) (hIL : IL X us sa sz rk lv v nM mk loc tt m) (hID : ID X c gn ca us sa m) (htt : ∀ k, k < 100 → tt k ≤ c)
    (hg : 2 ≤ gn ∧ gn ≤ 6 ∧ gp + gn ≤ nS) (hca : X + 37 ≤ ca ∧ ca + 3 ≤ mS m ∧ ∀ s, us s = true → dj ca 3 (sa s) 5)
    (hWT : WT gn gt gw gl (fun k => sz (od (gp + k))) ga (fun k => rk (od (gp + k))) (fun k => rv (od (gp + k))) (fun k => lv (od (gp + k))) gg wk wi nk nv nt tt)
    (hC : CM X ca gp gn gt gw gl (fun k => sa (od (gp + k))) (fun k => num (od (gp + k))) (fun k => ti (od (gp + k))) (fun k => sz (od (gp + k))) ga (fun k => rk (od (gp + k))) (fun k => rv (od (gp + k))) (fun k => lv (od (gp + k))) gg mC)
    (hQ : QM X gp gn gt gw (fun k => od (gp + k)) (fun k => num (od (gp + k))) (fun k => ti (od (gp + k))) (fun k => sz (od (gp + k))) ga (fun k => rk (od (gp + k))) (fun k => rv (od (gp + k))) (fun k => lv (od (gp + k))) gg nk nv nt tt m2)
    (hA1 : Ag (SC ca gn (fun k => sa (od (gp + k)))) m mC) (hA2 : Ag (fun b j => (b = X + 12 ∧ j = 0) ∨ SQ X b j) mC m2) : Inv X (c + 1) m2 := by
  obtain ⟨s1, s2, s3, s4, s5, F, rn, wn⟩ := hIS
  obtain ⟨l1, l2, l3, l4, l5, l6, l7⟩ := hIL
  obtain ⟨dn, da, ea, dm, er, dg, hRD, hWD⟩ := hID
  obtain ⟨hg2, hg6, hgS⟩ := hg
  obtain ⟨hc1, hc2, hc3⟩ := hca
  have hsrc : ∀ k, k < gn → us (od (gp + k)) = true := fun k hk => (s3.2.1 (gp + k) (by omega)).2
  have hA := hA1.trans hA2
  have st : ∀ b j, b < X + 37 → ¬ (b = X + 12 ∧ (j = 0 ∨ j = 21 ∨ j = 22)) → ¬ (X + 26 ≤ b ∧ b ≤ X + 30) → ¬ (SC ca gn (fun k => sa (od (gp + k))) b j ∨ ((b = X + 12 ∧ j = 0) ∨ SQ X b j)) := fun b j hb h1 h2 q => by
    rcases q with q | q | q
    · rcases q with q | q | ⟨k, hk, q⟩
      · omega
      · omega
      · have := (s5.1 _ (hsrc k hk)).1
        have q' : b = sa (od (gp + k)) + 4 := q
        omega
    · omega
    · unfold SQ at q; omega
  have dy : ∀ b j, X + 37 ≤ b → ¬ SC ca gn (fun k => sa (od (gp + k))) b j → ¬ (SC ca gn (fun k => sa (od (gp + k))) b j ∨ ((b = X + 12 ∧ j = 0) ∨ SQ X b j)) := fun b j hb h1 q => by
    rcases q with q | q | q
    · exact h1 q
    · omega
    · unfold SQ at q; omega
  have blk : ∀ s, us s = true → ∀ q j, q < 4 → ¬ SC ca gn (fun k => sa (od (gp + k))) (sa s + q) j := fun s hs q j hq z => by
    have hs3 := hc3 s hs
    unfold dj at hs3
    rcases z with z | z | ⟨k, hk, z⟩
    · omega
    · omega
    · have z' : sa s + q = sa (od (gp + k)) + 4 := z
      by_cases e : s = od (gp + k)
      · rw [← e] at z'; omega
      · have := s5.2 s _ hs (hsrc k hk) e
        unfold dj at this
        omega
  have hz : mS m2 = mS m := hA.2.2.2.1
  have sb : ∀ s, us s = true → ∀ q j, q < 4 → ¬ (SC ca gn (fun k => sa (od (gp + k))) (sa s + q) j ∨ ((sa s + q = X + 12 ∧ j = 0) ∨ SQ X (sa s + q) j)) := fun s hs q j hq => dy _ _ (by have := (s5.1 s hs).1; omega) (blk s hs q j hq)
  have fC : ∀ b j, X + 37 ≤ b → mI m2 b j = mI mC b j := fun b j hb => hA2.2.2.2.2 _ _ (fun q => by
    rcases q with q | q
    · omega
    · unfold SQ at q; omega)
  refine ⟨hA.SL hL, hA.IW hw (fun k => ⟨st _ _ (by omega) (by omega) (by omega), st _ _ (by omega) (by omega) (by omega), st _ _ (by omega) (by omega) (by omega), fun w hw => st _ _ (by omega) (by omega) (by omega)⟩), nS, nn, us, od, sa, sz, num, ti, rk, rv, lv, v, nM, mk, loc, tt, gn, ca, ⟨hA.RO s1 ⟨fun k => ⟨st _ _ (by omega) (by omega) (by omega), st _ _ (by omega) (by omega) (by omega)⟩, st _ _ (by omega) (by omega) (by omega), st _ _ (by omega) (by omega) (by omega)⟩, hA.RS s2 (fun k => ⟨st _ _ (by omega) (by omega) (by omega), st _ _ (by omega) (by omega) (by omega), st _ _ (by omega) (by omega) (by omega), st _ _ (by omega) (by omega) (by omega), st _ _ (by omega) (by omega) (by omega)⟩) (fun s hs => ⟨fun k => ⟨sb s hs 1 k (by decide), sb s hs 2 k (by decide)⟩, sb s hs 0 0 (by decide), sb s hs 0 1 (by decide), sb s hs 0 2 (by decide)⟩), s3, s4, by rw [hz]; exact s5, F, hA.RN rn ⟨⟨st _ _ (by omega) (by omega) (by omega), st _ _ (by omega) (by omega) (by omega), st _ _ (by omega) (by omega) (by omega)⟩, st _ _ (by omega) (by omega) (by omega), st _ _ (by omega) (by omega) (by omega), st _ _ (by omega) (by omega) (by omega)⟩, Nat.le_succ_of_le wn.1, wn.2.1, fun s hs => ⟨(wn.2.2.1 s hs).1, Nat.le_succ_of_le (wn.2.2.1 s hs).2⟩, wn.2.2.2⟩, ⟨hA.RV l1 (fun k => ⟨st _ _ (by omega) (by omega) (by omega), st _ _ (by omega) (by omega) (by omega)⟩), l2, hA.RM l3 ⟨fun k => ⟨st _ _ (by omega) (by omega) (by omega), st _ _ (by omega) (by omega) (by omega), st _ _ (by omega) (by omega) (by omega)⟩, st _ _ (by omega) (by omega) (by omega), st _ _ (by omega) (by omega) (by omega)⟩, l4, hA.RLv l5 (fun k => st _ _ (by omega) (by omega) (by omega)) (fun s hs => ⟨sb s hs 0 7 (by decide), fun k => sb s hs 3 k (by decide)⟩), hA.RLo l6 (fun k => ⟨st _ _ (by omega) (by omega) (by omega), st _ _ (by omega) (by omega) (by omega), st _ _ (by omega) (by omega) (by omega)⟩), l7⟩, ⟨gp, gt, gw, gl, ga, gg, wk, wi, nk, nv, nt, ⟨hQ.2.1.1, fun q => absurd q (by omega), fun _ => ⟨by rw [hA2.2.2.1]; exact hC.2.1, ?_, ⟨hQ.2.1.2.1, hQ.2.1.2.2.1, hQ.2.1.2.2.2⟩, fun k hk => ⟨(hQ.2.2.1 k hk).1.1, fun i hi => ⟨(hQ.2.2.1 k hk).1.2 i hi, ?_⟩⟩, hQ.2.2.2.1⟩⟩, fun k hk => Nat.le_succ_of_le (htt k hk), Or.inr ⟨⟨hg2, hg6, hgS⟩, hWT.1, ⟨hc1, by rw [hz]; exact hc2, hc3⟩, hWT.2⟩⟩, ⟨dn, da, ea, dm, er, dg, ?_, ?_⟩⟩
  · obtain ⟨g1, g2, g3⟩ := hC.2.2.1
    refine ⟨by rw [hA2.1, hA2.2.1, hA2.2.2.1]; exact g1, ?_, fun k hk => ?_⟩
    · rw [fC _ _ hc1, fC _ _ hc1, fC _ _ hc1, fC _ _ hc1]; exact g2
    · rw [hA2.2.2.1, fC _ _ (by omega)]; exact g3 k hk
  · have := (s5.1 _ (hsrc k hk)).1
    rw [fC _ _ (by omega)]
    exact (hC.2.2.2 k hk).1 i hi
  · refine hA.RD hRD (st _ _ (by omega) (by omega) (by omega)) (fun k => ⟨st _ _ (by omega) (by omega) (by omega), st _ _ (by omega) (by omega) (by omega), st _ _ (by omega) (by omega) (by omega)⟩) (fun k hk => ?_)
    obtain ⟨-, -, ⟨u1, u2, u3, u4⟩, -⟩ := hWD.2.1 k hk
    have hd := u4 (by omega)
    unfold dj at hd
    have hee : ∀ q j, q < 5 → ¬ SC ca gn (fun k => sa (od (gp + k))) (ea k + q) j := fun q j hq z => by
      rcases z with z | z | ⟨r, hr, z⟩
      · omega
      · omega
      · have z' : ea k + q = sa (od (gp + r)) + 4 := z
        have := u3 _ (hsrc r hr)
        unfold dj at this
        omega
    exact ⟨dy _ _ u1 (hee 0 0 (by decide)), dy _ _ u1 (hee 0 2 (by decide)), fun i => dy _ _ (by omega) (hee 4 i (by decide))⟩
  · rw [hz]
    exact WD_top hWD (Nat.le_refl _)
end STEP

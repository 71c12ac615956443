section FLU3
variable {X c : Nat} {m : Mem}
theorem op_flush (h : Inv X c m) : ∃ r m1 m2, cl 3 X (f_X3_flush X) m = some (r, m1) ∧ cl 4 (X + 12) (f_X4_flush (X + 12)) m1 = some (r, m2) ∧ Inv X (c + 1) m2 := by
  have hI := h
  have hL := h.1
  obtain ⟨-, hw, nS, nn, us, od, sa, sz, num, ti, rk, rv, lv, v, nM, mk, loc, tt, gn, ca, hIS, hIL, ⟨gp, gt, gw, gl, ga, gg, wk, wi, nk, nv, nt, hRG, hWG⟩, ⟨dn, da, ea, dm, er, dg, hRD, hWD⟩⟩ := h
  obtain ⟨s1, s2, s3, s4, s5, F, rn, wn⟩ := hIS
  obtain ⟨l1, l2, l3, l4, l5, l6, l7⟩ := hIL
  have h6 := l4.1
  have h20 := s3.1
  have hX := hL.1
  have hL0 : SL X (setI m (X + 12) 0 0) := hL
  by_cases hn0 : nM = 0
  · refine op_q hI ⟨-3, ?_, ?_⟩
    · unfold f_X3_flush
      rw [q_gN0_1 hL, q_gI2 hL, l3.1.1, hn0, i_t (by rfl)]; rfl
    · unfold f_X4_flush
      rw [q_pI12 hL, q_gI12 hL0, mI_setI, if_neg (by omega), l3.1.2, hn0, i_t (by rfl)]; rfl
  by_cases hs20 : nS = 20
  · refine op_q hI ⟨-4, ?_, ?_⟩
    · unfold f_X3_flush
      rw [q_gN0_1 hL, q_gI2 hL, l3.1.1, i_f (nI_ne0 (by omega) (by omega)), q_gI0 hL, s1.1.1, hs20, i_t (by rfl)]; rfl
    · unfold f_X4_flush
      rw [q_pI12 hL, q_gI12 hL0, mI_setI, if_neg (by omega), l3.1.2, i_f (nI_ne0 (by omega) (by omega)), q_gI12 hL0, mI_setI, if_neg (by omega), s1.1.2, hs20, i_t (by rfl)]; rfl
  obtain ⟨s0, hs0, hf0, hf1⟩ := least_free (has_free (us := us) (od := od) (nS := nS) (n := 21) (by omega) (fun p hp => (s3.2.1 p hp).1) s3.2.2.2)
  have hne : ∀ s, us s = true → s ≠ s0 := fun s hs e => by rw [e, hf0] at hs; cases hs
  obtain ⟨m1, m2, x1, hL1, x2, hL2, hz2, ⟨hAd, hk15⟩, ⟨a4, a5, a6, a7, a8⟩, ⟨y1, y2, y3, y4, y5⟩, ⟨z1, z2, z3, z4⟩, ⟨w1, w2, w3, w4, w5⟩, hrows⟩ := flush_mem hL l4 hn0 (by omega) l3 (fun k hk => (l1 k hk).2) s1.1 rn.1 s1.2.2 hs0 hf0 hf1
  obtain ⟨a, hae⟩ : ∃ a, a = mS m := ⟨_, rfl⟩
  rw [← hae] at hz2 a4 a5 a6 a7 a8 y1 hrows hX
  have f : ∀ b j, b < X + 37 → ¬ FS X nS s0 nM b j → mI m2 b j = mI m b j := hAd.2.2.1
  have hex : ∀ i, ∃ k, i < nM → k < 100 ∧ rankN mk nM k = i ∧ ∃ q, q < nM ∧ mk q = k := fun i => by
    by_cases hi : i < nM
    · obtain ⟨k, k1, k2, k3⟩ := rank_at l4 100 i (by rw [rank_100 l4]; exact hi)
      exact ⟨k, fun _ => ⟨k1, k2, (rank_step l4 k).mp k3⟩⟩
    · exact ⟨0, fun q => absurd q hi⟩
  obtain ⟨rk0, hrk0⟩ := Classical.axiomOfChoice hex
  have hrow : ∀ i, i < nM → (mI m2 (a + 1) i = nI (rk0 i) ∧ mI m2 (a + 2) i = v (rk0 i) ∧ mI m2 (a + 3) i = 1) ∧ (mI m2 (X + 23) (100 * s0 + i) = nI (rk0 i) ∧ mI m2 (X + 24) (100 * s0 + i) = v (rk0 i) ∧ mI m2 (X + 25) (100 * s0 + i) = 1) := fun i hi => by
    obtain ⟨-, k2, q, hq, k3⟩ := hrk0 i hi
    have e1 := hrows q hq
    rw [k3, k2] at e1
    exact ⟨e1.1, e1.2.1⟩
  have hold : ∀ s, va_up us s0 true s = true → s ≠ s0 → us s = true := fun s hs e => by rw [va_n e] at hs; exact hs
  have hodn : ∀ p, p < nS → od p ≠ s0 := fun p hp => hne _ (s3.2.1 p hp).2
  obtain ⟨loc2, hloc2⟩ : ∃ loc2 : Nat → Option (Nat × Nat), loc2 = fun k => if rankN mk nM k < rankN mk nM (k + 1) then some (s0, rankN mk nM k) else loc k := ⟨_, rfl⟩
  have hlin : ∀ k, (∃ j, j < nM ∧ mk j = k) → loc2 k = some (s0, rankN mk nM k) := fun k q => by
    rw [hloc2]; exact if_pos ((rank_step l4 k).mpr q)
  have hlout : ∀ k, ¬ (∃ j, j < nM ∧ mk j = k) → loc2 k = loc k := fun k q => by
    rw [hloc2]; exact if_neg (fun z => q ((rank_step l4 k).mp z))
  refine ⟨nI nn, m1, m2, by rw [q_ce0 hL]; exact x1, by rw [q_ce12 hL1]; exact x2, ?_⟩
  have nb : ∀ b j, b ≠ X ∧ b ≠ X + 2 ∧ b ≠ X + 12 ∧ (b < X + 15 ∨ X + 16 < b) ∧ (b < X + 18 ∨ X + 25 < b) → ¬ FS X nS s0 nM b j := fun b j q => FS_b q
  refine ⟨hL2, hAd.IW hw (fun k => ⟨nb _ _ (by omega), nb _ _ (by omega), nb _ _ (by omega), fun w hw => nb _ _ (by omega)⟩), nS + 1, nn + 1, va_up us s0 true, va_up od nS s0, va_up sa s0 a, va_up sz s0 nM, va_up num s0 nn, va_up ti s0 0, va_up rk s0 rk0, va_up rv s0 (fun i => v (rk0 i)), va_up lv s0 (fun _ => true), v, 0, mk, loc2, tt, gn, ca, ⟨⟨⟨y2, z2⟩, fun p hp => ?_, fun s hs => ?_⟩, fun s hs => ?_, ⟨by omega, fun p hp => ?_, fun p q hp hq e => ?_, fun s hs => ?_⟩, fun s hs => ?_, ⟨fun s hs => ?_, fun s r hs hr e => ?_⟩, F, ⟨⟨y3, z3⟩, ?_, ?_, ?_⟩, by have := wn.1; omega, wn.2.1, fun s hs => ?_, fun s r hs hr e => ?_⟩, ⟨hAd.RV l1 (fun k => ⟨nb _ _ (by omega), nb _ _ (by omega)⟩), l2, ⟨⟨y5, z1⟩, fun j hj => absurd hj (by omega)⟩, ⟨by omega, fun j hj => absurd hj (by omega), fun i j hi => absurd hi (by omega)⟩, fun s hs => ?_, fun k hk => ?_, ⟨fun k s i hk hl => ?_, fun s i hs hi hl => ?_, fun k hk => ?_, fun j hj => absurd hj (by omega)⟩⟩, ⟨gp, gt, gw, gl, ga, gg, wk, wi, nk, nv, nt, ?_, ?_⟩, ⟨dn, da, ea, dm, er, dg, ?_, ?_⟩⟩
  -- RO
  · by_cases e : p = nS
    · subst e
      rw [va_s, va_s]
      exact ⟨y1, w1⟩
    · have hp2 : p < nS := by omega
      rw [va_n e, va_n (hodn p hp2), hAd.2.2.2.1 _ _ (by omega) (by omega), f _ _ (by omega) (FS_18 e)]
      exact s1.2.1 p hp2
  · by_cases e : s = s0
    · subst e
      rw [va_s]; exact w2
    · rw [va_n e, f _ _ (by omega) (FS_s (Or.inl rfl) e)]
      exact s1.2.2 s hs
  -- RS
  · by_cases e : s = s0
    · subst e
      rw [va_s, va_s, va_s, va_s, va_s, va_s]
      exact ⟨⟨a4.1, a4.2.1, a4.2.2, ⟨a5, a6, a7⟩, fun i hi => ⟨(hrow i hi).1.1, (hrow i hi).1.2.1⟩⟩, ⟨w3, w4, w5⟩, fun i hi => ⟨(hrow i hi).2.1, (hrow i hi).2.2.1⟩⟩
    · have hs2 := hold s hs e
      have hw1 := s5.1 s hs2
      have hsz := (s4 s hs2).1
      rw [va_n e, va_n e, va_n e, va_n e, va_n e, va_n e]
      obtain ⟨g1, g2, g3⟩ := s2 s hs2
      refine ⟨SgS_e g1 (hAd.blk hw1.1 hw1.2), by rw [f _ _ (by omega) (FS_s (Or.inr (Or.inl rfl)) e), f _ _ (by omega) (FS_s (Or.inr (Or.inr (Or.inl rfl))) e), f _ _ (by omega) (FS_s (Or.inr (Or.inr (Or.inr rfl))) e)]; exact g2, fun i hi => ?_⟩
      rw [f _ _ (by omega) (FS_r (Or.inl rfl) e (by omega) (by omega)), f _ _ (by omega) (FS_r (Or.inr (Or.inl rfl)) e (by omega) (by omega))]
      exact g3 i hi
  -- WO
  · by_cases e : p = nS
    · rw [e, va_s]; exact ⟨hs0, va_s⟩
    · rw [va_n e]
      have := s3.2.1 p (by omega)
      exact ⟨this.1, by rw [va_n (hodn p (by omega))]; exact this.2⟩
  · by_cases e1 : p = nS
    · by_cases e2 : q = nS
      · omega
      · rw [e1, va_s, va_n e2] at e
        exact absurd e.symm (hodn q (by omega))
    · by_cases e2 : q = nS
      · rw [e2, va_s, va_n e1] at e
        exact absurd e (hodn p (by omega))
      · rw [va_n e1, va_n e2] at e
        exact s3.2.2.1 p q (by omega) (by omega) e
  · by_cases e : s = s0
    · exact ⟨nS, by omega, by rw [va_s, e]⟩
    · obtain ⟨p, hp, e2⟩ := s3.2.2.2 s (hold s hs e)
      exact ⟨p, by omega, by rw [va_n (by omega)]; exact e2⟩
  -- WS
  · by_cases e : s = s0
    · subst e
      rw [va_s, va_s]
      refine ⟨by omega, fun i hi => (hrk0 i hi).1, fun i j hij hj => ?_⟩
      have u1 := (hrk0 i (by omega)).2.1
      have u2 := (hrk0 j hj).2.1
      rcases Nat.lt_or_ge (rk0 i) (rk0 j) with z | z
      · exact z
      · have := rank_mono (mk := mk) (nM := nM) z
        omega
    · rw [va_n e, va_n e]
      exact s4 s (hold s hs e)
  -- WA
  · by_cases e : s = s0
    · rw [e, va_s]; omega
    · rw [va_n e]
      have := s5.1 s (hold s hs e)
      omega
  · by_cases e1 : s = s0
    · by_cases e2 : r = s0
      · omega
      · rw [e1, va_s, va_n e2]
        have := s5.1 r (hold r hr e2)
        exact Or.inr (by omega)
    · by_cases e2 : r = s0
      · rw [e2, va_s, va_n e1]
        have := s5.1 s (hold s hs e1)
        exact Or.inl (by omega)
      · rw [va_n e1, va_n e2]
        exact s5.2 s r (hold s hs e1) (hold r hr e2) e
  -- RN
  · rw [y4, z4, rn.2.1]
  · rw [f _ _ (by omega) (FS_0 (by omega))]; exact rn.2.2.1
  · rw [f _ _ (by omega) (FS_12 (by omega))]; exact rn.2.2.2
  · by_cases e : s = s0
    · rw [e, va_s, va_s]; omega
    · rw [va_n e, va_n e]
      have := wn.2.2.1 s (hold s hs e)
      omega
  · by_cases e1 : s = s0
    · by_cases e2 : r = s0
      · omega
      · rw [e1, va_s, va_n e2] at e
        have := (wn.2.2.1 r (hold r hr e2)).1
        omega
    · by_cases e2 : r = s0
      · rw [e2, va_s, va_n e1] at e
        have := (wn.2.2.1 s (hold s hs e1)).1
        omega
      · rw [va_n e1, va_n e2] at e
        exact wn.2.2.2 s r (hold s hs e1) (hold r hr e2) e
  -- RLv
  · by_cases e : s = s0
    · subst e
      rw [va_s, va_s, va_s]
      refine ⟨⟨?_, fun i hi => (hrow i hi).1.2.2⟩, fun i hi => (hrow i hi).2.2.2⟩
      rw [cnt_true (fun _ _ => rfl)]; exact a8
    · have hs2 := hold s hs e
      have hw1 := s5.1 s hs2
      have hsz := (s4 s hs2).1
      rw [va_n e, va_n e, va_n e]
      obtain ⟨g1, g2⟩ := l5 s hs2
      refine ⟨SgL_e g1 (hAd.blk hw1.1 hw1.2), fun i hi => ?_⟩
      rw [f _ _ (by omega) (FS_r (Or.inr (Or.inr rfl)) e (by omega) (by omega))]
      exact g2 i hi
  -- RLo
  · refine ⟨by rw [f _ _ (by omega) (nb _ _ (by omega))]; exact (l6 k hk).1, ?_⟩
    by_cases e : ∃ j, j < nM ∧ mk j = k
    · rw [hlin k e]
      obtain ⟨j, hj, e2⟩ := e
      refine ⟨fun q => (by cases q), fun s i q => ?_⟩
      cases q
      have := (hrows j hj).2.2
      rw [e2] at this
      exact this
    · have hq := hk15 k (fun q hq e2 => e ⟨q, hq, e2⟩)
      rw [hlout k e, hq.1, hq.2]
      exact (l6 k hk).2
  -- WL
  · by_cases e : ∃ j, j < nM ∧ mk j = k
    · rw [hlin k e] at hl
      cases hl
      obtain ⟨j, hj, rfl⟩ := e
      have hr := rank_lt l4 hj
      have u1 := hrk0 _ hr
      refine ⟨va_s, hs0, by rw [va_s]; exact hr, ?_, by rw [va_s]⟩
      rw [va_s]
      obtain ⟨-, u2, q, hq, u3⟩ := u1
      rw [← u3] at u2 ⊢
      rw [rank_inj l4 hq hj u2]
    · rw [hlout k e] at hl
      obtain ⟨u1, u2, u3, u4, u5⟩ := l7.1 k s i hk hl
      have hs9 := hne s u1
      rw [va_n hs9, va_n hs9, va_n hs9, va_n hs9]
      exact ⟨u1, u2, u3, u4, u5⟩
  · by_cases e : s = s0
    · subst e
      rw [va_s] at hi
      rw [va_s]
      obtain ⟨-, u2, u3⟩ := hrk0 i hi
      rw [hlin _ u3, u2]
    · have hs2 := hold s hs e
      rw [va_n e] at hi hl
      rw [va_n e]
      have u := l7.2.1 s i hs2 hi hl
      rw [hlout _ (fun ⟨j, hj, q⟩ => by
        have := l7.2.2.2 j hj
        rw [q, u] at this
        cases this)]
      exact u
  · rw [l7.2.2.1 k hk]
    constructor
    · rintro (q | q)
      · exact Or.inr (by rw [hlin k q]; exact fun z => by cases z)
      · by_cases e : ∃ j, j < nM ∧ mk j = k
        · exact Or.inr (by rw [hlin k e]; exact fun z => by cases z)
        · exact Or.inr (by rw [hlout k e]; exact q)
    · rintro (⟨j, hj, -⟩ | q)
      · omega
      · by_cases e : ∃ j, j < nM ∧ mk j = k
        · exact Or.inl e
        · rw [hlout k e] at q; exact Or.inr q
  -- IG
  · refine RG_congr (hAd.RG hRG hWG (Nat.le_refl _) (fun p hp => s5.1 _ (s3.2.1 p hp).2) ⟨FS_12 (by omega), FS_12 (by omega), FS_12 (by omega), FS_12 (by omega)⟩ (fun k => ⟨nb _ _ (by omega), nb _ _ (by omega), nb _ _ (by omega), nb _ _ (by omega), nb _ _ (by omega)⟩) (by omega)) (fun k hk => ?_)
    rcases hWG.2 with g | ⟨g, -⟩
    · omega
    · have e1 : va_up od nS s0 (gp + k) = od (gp + k) := va_n (by omega)
      rw [e1, va_n (hodn _ (by omega))]
  · refine WG_congr (WG_top hWG (Nat.le_refl _)) (by omega) (by omega) (fun p hp => ?_) (fun s hs => ?_)
    · have := hodn p hp
      rw [va_n (by omega), va_n this, va_n this, va_n this, va_n this]
      exact ⟨rfl, rfl, rfl, rfl, rfl⟩
    · by_cases e : s = s0
      · exact Or.inr (by rw [e, va_s]; omega)
      · exact Or.inl ⟨hold s hs e, va_n e⟩
  -- ID
  · exact hAd.RD hRD hWD (Nat.le_refl _) (FS_12 (by omega)) (fun k => ⟨nb _ _ (by omega), nb _ _ (by omega), nb _ _ (by omega)⟩) (by omega)
  · obtain ⟨v1, v2, v3, v4⟩ := hWD
    refine ⟨v1, fun k hk => ?_, v3, fun q => ?_⟩
    · obtain ⟨u1, u2, ⟨u3, u4, u5, u6⟩, u7⟩ := v2 k hk
      refine ⟨u1, by omega, ⟨u3, by omega, fun s hs => ?_, u6⟩, u7⟩
      by_cases e : s = s0
      · rw [e, va_s]; exact Or.inl (by omega)
      · rw [va_n e]; exact u5 s (hold s hs e)
    · obtain ⟨u3, u4, u5, u6⟩ := v4 q
      refine ⟨u3, by omega, fun s hs => ?_, u6⟩
      by_cases e : s = s0
      · rw [e, va_s]; exact Or.inl (by omega)
      · rw [va_n e]; exact u5 s (hold s hs e)
end FLU3

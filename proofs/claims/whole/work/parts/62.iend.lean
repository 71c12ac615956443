/-! the state after a merge ended -/
section IEND
variable {X c : Nat} {m m2 : Mem}
def SE (X gp s0 b j : Nat) : Prop := (b = X ∧ (j = 3 ∨ j = 4 ∨ j = 5)) ∨ (b = X + 12 ∧ (j = 0 ∨ j = 7 ∨ j = 16 ∨ j = 17 ∨ j = 19 ∨ j = 21 ∨ j = 22 ∨ j = 28)) ∨ (b = X + 18 ∧ gp ≤ j) ∨ b = X + 19 ∨ ((b = X + 20 ∨ b = X + 21 ∨ b = X + 22) ∧ j = s0) ∨ ((b = X + 23 ∨ b = X + 24 ∨ b = X + 25) ∧ 100 * s0 ≤ j ∧ j < 100 * s0 + 100) ∨ b = X + 15 ∨ b = X + 16 ∨ (X + 26 ≤ b ∧ b ≤ X + 33)
theorem SE_b {gp s0 b j : Nat} (h : b ≠ X ∧ b ≠ X + 12 ∧ b ≠ X + 15 ∧ b ≠ X + 16 ∧ (b < X + 18 ∨ X + 33 < b)) : ¬ SE X gp s0 b j := fun q => by
  unfold SE at q
  omega
theorem SE_0 {gp s0 j : Nat} (h : j ≠ 3 ∧ j ≠ 4 ∧ j ≠ 5) : ¬ SE X gp s0 X j := fun q => by
  unfold SE at q
  omega
theorem SE_12 {gp s0 j : Nat} (h : j = 5 ∨ j = 18) : ¬ SE X gp s0 (X + 12) j := fun q => by
  unfold SE at q
  omega
theorem SE_18 {gp s0 j : Nat} (h : j < gp) : ¬ SE X gp s0 (X + 18) j := fun q => by
  unfold SE at q
  omega
theorem SE_s {gp s0 b j : Nat} (hb : b = X + 20 ∨ b = X + 21 ∨ b = X + 22) (h : j ≠ s0) : ¬ SE X gp s0 b j := fun q => by
  unfold SE at q
  omega
theorem SE_r {gp s0 b s i : Nat} (hb : b = X + 23 ∨ b = X + 24 ∨ b = X + 25) (h : s ≠ s0) (hi : i < 100) : ¬ SE X gp s0 b (100 * s + i) := fun q => by
  unfold SE at q
  omega
theorem Inv_end {nS nn : Nat} {us : Nat → Bool} {od sa sz num ti : Nat → Nat} {rk : Nat → Nat → Nat} {rv : Nat → Nat → Int32} {lv : Nat → Nat → Bool} {v : Nat → Int32} {nM : Nat} {mk : Nat → Nat} {loc : Nat → Option (Nat × Nat)} {tt : Nat → Nat} {gn gp gt gw ca kp s0 : Nat} {gg : Nat → Nat → Int32} {wk wi nk : Nat → Nat} {nv : Nat → Int32} {nt : Nat → Nat} {us1 : Nat → Bool}
    (hL2 : SL X m2) (hX : X + 37 ≤ mS m) (hw : IW X m) (hIS : IS X c nS nn us od sa sz num ti rk rv m) (hIL : IL X us sa sz rk lv v nM mk loc tt m) (htt : ∀ k, k < 100 → tt k ≤ c)
    (hg : 2 ≤ gn ∧ gn ≤ 6 ∧ gp + gn ≤ nS) (hca : X + 37 ≤ ca ∧ ca + 3 ≤ mS m ∧ ∀ s, us s = true → dj ca 3 (sa s) 5)
    (hMg : (mK m ca = 1 ∧ mR m ca 1 = some (ca + 1) ∧ mK m (ca + 1) = 7 ∧ mN m (ca + 1) = gn) ∧ ∀ k, k < gn → mR m (ca + 1) k = some (sa (od (gp + k))))
    (hWT : WT gn gt gw 0 (fun k => sz (od (gp + k))) (fun k => sz (od (gp + k))) (fun k => rk (od (gp + k))) (fun k => rv (od (gp + k))) (fun k => lv (od (gp + k))) gg wk wi nk nv nt tt)
    (hkp : (kp = 0 ∧ gw = 0) ∨ (kp = 1 ∧ 0 < gw)) (hs0 : s0 < 21) (hu0 : us1 s0 = false) (hu1 : ∀ k, k < gn → us1 (od (gp + k)) = false) (hu2 : ∀ s, (∀ k, k < gn → od (gp + k) ≠ s) → us1 s = us s)
    (hD : ∀ b, X + 37 ≤ b → b < mS m → mK m2 b = mK m b ∧ mN m2 b = mN m b ∧ mR m2 b = mR m b ∧ ∀ j, ¬ SC ca gn (fun k => sa (od (gp + k))) b j → mI m2 b j = mI m b j)
    (hI : ∀ b j, b < X + 37 → ¬ SE X gp s0 b j → mI m2 b j = mI m b j) (hz : mS m ≤ mS m2)
    (hX0 : mI m2 X 3 = nI (nS - gn + kp) ∧ mI m2 X 4 = nI (nn + kp) ∧ mI m2 X 5 = mI m X 5 + nI gw ∧ mR m2 X 7 = none ∧ mR m2 X 8 = some ca)
    (hX5 : (∀ p, p < gp → mR m2 (X + 5) p = mR m (X + 5) p) ∧ ∀ p, gp + kp ≤ p → p < nS - gn + kp → mR m2 (X + 5) p = some (sa (od (p + gn - kp))))
    (hQ : EQf X gp gn gw nS nn kp (va_up us1 s0 (decide (kp = 1))) od (fun k => num (od (gp + k))) (fun k => sz (od (gp + k))) gg m m2)
    (hwt : ∀ k, k < gn → ∀ i, i < sz (od (gp + k)) → mI m2 (sa (od (gp + k)) + 4) i = gg k i)
    (hky : ∀ a, (∀ q, q < gw → lv (od (gp + wk q)) (wi q) = true → nk q ≠ a) → mI m2 (X + 15) a = mI m (X + 15) a ∧ mI m2 (X + 16) a = mI m (X + 16) a)
    (hnew : kp = 1 → mS m2 = mS m + 5 ∧ mR m2 (X + 5) gp = some (mS m) ∧ SgK m2 (mS m) gw ∧ (mI m2 (mS m) 0 = nI nn ∧ mI m2 (mS m) 1 = nI (mxT (fun k => ti (od (gp + k))) gn + 1) ∧ mI m2 (mS m) 2 = nI gw ∧ mI m2 (mS m) 7 = nI (cnt (fun j => lv (od (gp + wk j)) (wi j)) gw)) ∧ (∀ j, j < gw → mI m2 (mS m + 1) j = nI (nk j) ∧ mI m2 (mS m + 2) j = nv j ∧ mI m2 (mS m + 3) j = b2i (lv (od (gp + wk j)) (wi j))) ∧
      (mI m2 (X + 18) gp = nI s0 ∧ mI m2 (X + 20) s0 = nI nn ∧ mI m2 (X + 21) s0 = nI (mxT (fun k => ti (od (gp + k))) gn + 1) ∧ mI m2 (X + 22) s0 = nI gw) ∧ ∀ q, q < gw → (mI m2 (X + 23) (100 * s0 + q) = nI (nk q) ∧ mI m2 (X + 24) (100 * s0 + q) = nv q ∧ mI m2 (X + 25) (100 * s0 + q) = b2i (lv (od (gp + wk q)) (wi q))) ∧ (lv (od (gp + wk q)) (wi q) = true → mI m2 (X + 15) (nk q) = nI s0 ∧ mI m2 (X + 16) (nk q) = nI q)) : Inv X (c + 1) m2 := by
  obtain ⟨s1, s2, s3, s4, s5, F, rn, wn⟩ := hIS
  obtain ⟨l1, l2, l3, l4, l5, l6, l7⟩ := hIL
  obtain ⟨hg2, hg6, hgS⟩ := hg
  obtain ⟨hc1, hc2, hc3⟩ := hca
  obtain ⟨t1, t2, t3, t4, t5, t6, t7⟩ := hWT
  obtain ⟨⟨e7, e16, e17, e19, e28⟩, e18, e1x, e3x⟩ := hQ
  have h20 := s3.1
  have hsrc : ∀ k, k < gn → us (od (gp + k)) = true := fun k hk => (s3.2.1 (gp + k) (by omega)).2
  have hnk : ∀ j, j < gw → nk j < 100 := fun j hj => by
    obtain ⟨a1, a2, -, a4, -⟩ := t3 j hj
    rw [a4]
    exact (s4 _ (hsrc _ a1)).2.1 _ a2
  have hgw : gw ≤ 100 := inc_le t4 hnk
  have hkp1 : kp ≤ 1 := by omega
  -- used slots after
  have ho1 : ∀ s, us1 s = true → us s = true ∧ ∀ k, k < gn → od (gp + k) ≠ s := fun s hs => by
    have : ∀ k, k < gn → od (gp + k) ≠ s := fun k hk e => by
      rw [← e, hu1 k hk] at hs
      cases hs
    exact ⟨by rw [← hu2 s this]; exact hs, this⟩
  have hold : ∀ s, va_up us1 s0 (decide (kp = 1)) s = true → s ≠ s0 → us s = true ∧ ∀ k, k < gn → od (gp + k) ≠ s := fun s hs e => ho1 s (by rw [va_n e] at hs; exact hs)
  have hnew0 : va_up us1 s0 (decide (kp = 1)) s0 = true → kp = 1 := fun h => by
    rw [va_s] at h
    exact of_decide_eq_true h
  have hpl : ∀ p, p < nS → ¬ (gp ≤ p ∧ p < gp + gn) → us1 (od p) = true := fun p hp q => by
    rw [hu2 (od p) (fun k hk e => by
      have := s3.2.2.1 (gp + k) p (by omega) hp e
      omega)]
    exact (s3.2.1 p hp).2
  have hpn : ∀ p, p < nS → ¬ (gp ≤ p ∧ p < gp + gn) → od p ≠ s0 := fun p hp q e => by
    have := hpl p hp q
    rw [e, hu0] at this
    cases this
  have hpu : ∀ p, p < nS → ¬ (gp ≤ p ∧ p < gp + gn) → va_up us1 s0 (decide (kp = 1)) (od p) = true := fun p hp q => by
    rw [va_n (hpn p hp q)]; exact hpl p hp q
  obtain ⟨od2, hod2⟩ : ∃ od2 : Nat → Nat, od2 = fun p => if p < gp then od p else if p < gp + kp then s0 else od (p + gn - kp) := ⟨_, rfl⟩
  have hoA : ∀ p, p < gp → od2 p = od p := fun p h => by rw [hod2]; exact if_pos h
  have hoB : kp = 1 → od2 gp = s0 := fun h => by
    rw [hod2]
    show (if gp < gp then od gp else if gp < gp + kp then s0 else _) = s0
    rw [if_neg (by omega), if_pos (by omega)]
  have hoC : ∀ p, gp + kp ≤ p → od2 p = od (p + gn - kp) := fun p h => by
    rw [hod2]
    show (if p < gp then od p else if p < gp + kp then s0 else od (p + gn - kp)) = _
    rw [if_neg (by omega), if_neg (by omega)]
  have hcase : ∀ p, p < nS - gn + kp → (p < gp ∧ od2 p = od p) ∨ (p = gp ∧ kp = 1 ∧ od2 p = s0) ∨ (gp + kp ≤ p ∧ od2 p = od (p + gn - kp) ∧ gp + gn ≤ p + gn - kp ∧ p + gn - kp < nS) := fun p hp => by
    rcases Nat.lt_or_ge p gp with q | q
    · exact Or.inl ⟨q, hoA p q⟩
    · rcases Nat.lt_or_ge p (gp + kp) with q2 | q2
      · have e1 : kp = 1 := by omega
        have e2 : p = gp := by omega
        exact Or.inr (Or.inl ⟨e2, e1, by rw [e2]; exact hoB e1⟩)
      · exact Or.inr (Or.inr ⟨q2, hoC p q2, by omega, by omega⟩)
  -- where the keys are after
  have hex : ∀ k, ∃ o : Option (Nat × Nat), (∃ j, j < gw ∧ lv (od (gp + wk j)) (wi j) = true ∧ nk j = k ∧ o = some (s0, j)) ∨ ((∀ j, j < gw → lv (od (gp + wk j)) (wi j) = true → nk j ≠ k) ∧ o = loc k) := fun k => by
    by_cases e : ∃ j, j < gw ∧ lv (od (gp + wk j)) (wi j) = true ∧ nk j = k
    · obtain ⟨j, j1, j2, j3⟩ := e
      exact ⟨some (s0, j), Or.inl ⟨j, j1, j2, j3, rfl⟩⟩
    · exact ⟨loc k, Or.inr ⟨fun j hj hl q => e ⟨j, hj, hl, q⟩, rfl⟩⟩
  obtain ⟨loc2, hloc2⟩ := Classical.axiomOfChoice hex
  have hkpw : 0 < gw → kp = 1 := fun h => by omega
  -- the living rows of the sources go on living
  have hsl : ∀ k i, k < gn → i < sz (od (gp + k)) → lv (od (gp + k)) i = true → ∃ j, j < gw ∧ wk j = k ∧ wi j = i ∧ nk j = rk (od (gp + k)) i := fun k i hk hi hl => by
    rcases t2 k i hk hi with q | ⟨j, q1, q2, q3, q4⟩
    · exact absurd q (t7 k i hk hi hl)
    · have := (t3 j q1).2.2.2.1
      rw [q3, q4] at this
      exact ⟨j, q1, q3, q4, this⟩
  have hloA : ∀ j, j < gw → lv (od (gp + wk j)) (wi j) = true → loc (nk j) = some (od (gp + wk j), wi j) := fun j hj hl => by
    obtain ⟨x1, x2, -, x4, -⟩ := t3 j hj
    rw [x4]
    exact l7.2.1 _ _ (hsrc _ x1) x2 hl
  have blk : ∀ s, us s = true → ∀ q j, q < 4 → ¬ SC ca gn (fun k => sa (od (gp + k))) (sa s + q) j := fun s hs q j hq z => by
    have hs3 := hc3 s hs
    unfold dj at hs3
    rcases z with z | z | ⟨k, hk, z⟩
    · omega
    · omega
    · have z' : sa s + q = sa (od (gp + k)) + 4 := z
      by_cases e : s = od (gp + k)
      · rw [← e] at z'; omega
      · have := s5.2 s _ hs (hsrc k hk) e
        unfold dj at this
        omega
  have hSg : ∀ s, us s = true → SgS m2 (sa s) (num s) (ti s) (sz s) (rk s) (rv s) ∧ SgL m2 (sa s) (sz s) (lv s) := fun s hs => by
    have w := s5.1 s hs
    obtain ⟨⟨g1, g2, g3, g4, g5⟩, -⟩ := s2 s hs
    obtain ⟨⟨g6, g7⟩, -⟩ := l5 s hs
    have d0 := hD (sa s) (by omega) (by omega)
    have d1 := hD (sa s + 1) (by omega) (by omega)
    have d2 := hD (sa s + 2) (by omega) (by omega)
    have d3 := hD (sa s + 3) (by omega) (by omega)
    have d4 := hD (sa s + 4) (by omega) (by omega)
    refine ⟨⟨by rw [d0.1, d0.2.2.1]; exact g1, by rw [d1.1, d2.1, d3.1, d4.1]; exact g2, by rw [d1.2.1, d2.2.1, d3.2.1, d4.2.1]; exact g3, by rw [d0.2.2.2 _ (blk s hs 0 _ (by decide)), d0.2.2.2 _ (blk s hs 0 _ (by decide)), d0.2.2.2 _ (blk s hs 0 _ (by decide))]; exact g4, fun i hi => by rw [d1.2.2.2 _ (blk s hs 1 _ (by decide)), d2.2.2.2 _ (blk s hs 2 _ (by decide))]; exact g5 i hi⟩, by rw [d0.2.2.2 _ (blk s hs 0 _ (by decide))]; exact g6, fun i hi => by rw [d3.2.2.2 _ (blk s hs 3 _ (by decide))]; exact g7 i hi⟩
  obtain ⟨vo, vv, hv1, hv2⟩ := hw
  refine ⟨hL2, ⟨vo, vv, fun w hw => ?_, hv2⟩, nS - gn + kp, nn + kp, va_up us1 s0 (decide (kp = 1)), od2, va_up sa s0 (mS m), va_up sz s0 gw, va_up num s0 nn, va_up ti s0 (mxT (fun k => ti (od (gp + k))) gn + 1), va_up rk s0 nk, va_up rv s0 nv, va_up lv s0 (fun j => lv (od (gp + wk j)) (wi j)), v, nM, mk, loc2, tt, 0, ca, ⟨⟨⟨hX0.1, e7⟩, fun p hp => ?_, e1x⟩, fun s hs => ?_, ⟨by omega, fun p hp => ?_, fun p q hp hq e => ?_, fun s hs => ?_⟩, fun s hs => ?_, ⟨fun s hs => ?_, fun s r hs hr e => ?_⟩, F, ⟨⟨hX0.2.1, e16⟩, ?_, ?_, ?_⟩, by have := wn.1; omega, wn.2.1, fun s hs => ?_, fun s r hs hr e => ?_⟩, ⟨fun k hk => ?_, l2, ⟨⟨?_, ?_⟩, fun j hj => ?_⟩, l4, fun s hs => ?_, fun k hk => ?_, ⟨fun k s i hk hl => ?_, fun s i hs hi hl => ?_, fun k hk => ?_, fun j hj => ?_⟩⟩, ⟨0, 0, 0, 0, fun _ => 0, gg, wk, wi, nk, nv, nt, ⟨e19, fun _ => hX0.2.2.2.1, fun q => absurd q (by omega)⟩, fun k hk => Nat.le_succ_of_le (htt k hk), Or.inl rfl⟩, ⟨gn, ca, fun k => sa (od (gp + k)), fun k => num (od (gp + k)), fun k => sz (od (gp + k)), gg, ⟨e28, fun q => absurd q (by omega), fun _ => ⟨hX0.2.2.2.2, ?_, fun k hk => ⟨?_, ?_, fun i hi => ?_⟩⟩⟩, ⟨hg6, fun k hk => ⟨?_, ?_, ⟨?_, ?_, fun s hs => ?_, fun q => absurd q (by omega)⟩, fun i hi => ?_⟩, fun i j hi hj e => ?_, fun _ => ⟨hc1, by omega, fun s hs => ?_, fun q => absurd q (by omega)⟩⟩⟩⟩
  -- RW
  · refine ⟨⟨by rw [hI _ _ (by omega) (SE_b (by omega))]; exact (hv1 w hw).1.1, by rw [hI _ _ (by omega) (SE_b (by omega))]; exact (hv1 w hw).1.2⟩, fun ho k hk => ?_⟩
    rw [hI _ _ (by omega) (SE_b (by omega)), hI _ _ (by omega) (SE_b (by omega))]
    exact (hv1 w hw).2 ho k hk
  -- RO
  · rcases hcase p hp with ⟨q1, q2⟩ | ⟨q1, q2, q3⟩ | ⟨q1, q2, q3, q4⟩
    · rw [q2, va_n (hpn p (by omega) (by omega)), hX5.1 p q1, hI _ _ (by omega) (SE_18 q1)]
      exact s1.2.1 p (by omega)
    · rw [q3, va_s, q1]
      exact ⟨(hnew q2).2.1, (hnew q2).2.2.2.2.2.1.1⟩
    · rw [q2, va_n (hpn _ q4 (by omega))]
      exact ⟨hX5.2 p q1 hp, e18 p q1 hp⟩
  -- RS
  · by_cases e : s = s0
    · subst e
      obtain ⟨n1, n2, n3, ⟨n4, n5, n6, n7⟩, n8, ⟨n9, n10, n11, n12⟩, n13⟩ := hnew (hnew0 hs)
      rw [va_s, va_s, va_s, va_s, va_s, va_s]
      exact ⟨⟨n3.1, n3.2.1, n3.2.2, ⟨n4, n5, n6⟩, fun i hi => ⟨(n8 i hi).1, (n8 i hi).2.1⟩⟩, ⟨n10, n11, n12⟩, fun i hi => ⟨(n13 i hi).1.1, (n13 i hi).1.2.1⟩⟩
    · obtain ⟨hs2, -⟩ := hold s hs e
      have hsz := (s4 s hs2).1
      rw [va_n e, va_n e, va_n e, va_n e, va_n e, va_n e]
      obtain ⟨-, g2, g3⟩ := s2 s hs2
      refine ⟨(hSg s hs2).1, by rw [hI _ _ (by omega) (SE_s (Or.inl rfl) e), hI _ _ (by omega) (SE_s (Or.inr (Or.inl rfl)) e), hI _ _ (by omega) (SE_s (Or.inr (Or.inr rfl)) e)]; exact g2, fun i hi => ?_⟩
      rw [hI _ _ (by omega) (SE_r (Or.inl rfl) e (by omega)), hI _ _ (by omega) (SE_r (Or.inr (Or.inl rfl)) e (by omega))]
      exact g3 i hi
  -- WO
  · rcases hcase p hp with ⟨q1, q2⟩ | ⟨q1, q2, q3⟩ | ⟨q1, q2, q3, q4⟩
    · rw [q2]; exact ⟨(s3.2.1 p (by omega)).1, hpu p (by omega) (by omega)⟩
    · rw [q3]; exact ⟨hs0, by rw [va_s, q2]; rfl⟩
    · rw [q2]; exact ⟨(s3.2.1 _ q4).1, hpu _ q4 (by omega)⟩
  · rcases hcase p hp with ⟨q1, q2⟩ | ⟨q1, q2, q3⟩ | ⟨q1, q2, q3, q4⟩
    · rcases hcase q hq with ⟨r1, r2⟩ | ⟨r1, r2, r3⟩ | ⟨r1, r2, r3, r4⟩
      · rw [q2, r2] at e; exact s3.2.2.1 p q (by omega) (by omega) e
      · rw [q2, r3] at e; exact absurd e (hpn p (by omega) (by omega))
      · rw [q2, r2] at e
        have := s3.2.2.1 p _ (by omega) r4 e
        omega
    · rcases hcase q hq with ⟨r1, r2⟩ | ⟨r1, r2, r3⟩ | ⟨r1, r2, r3, r4⟩
      · rw [q3, r2] at e; exact absurd e.symm (hpn q (by omega) (by omega))
      · omega
      · rw [q3, r2] at e; exact absurd e.symm (hpn _ r4 (by omega))
    · rcases hcase q hq with ⟨r1, r2⟩ | ⟨r1, r2, r3⟩ | ⟨r1, r2, r3, r4⟩
      · rw [q2, r2] at e
        have := s3.2.2.1 _ q q4 (by omega) e
        omega
      · rw [q2, r3] at e; exact absurd e (hpn _ q4 (by omega))
      · rw [q2, r2] at e
        have := s3.2.2.1 _ _ q4 r4 e
        omega
  · by_cases e : s = s0
    · subst e
      have := hnew0 hs
      exact ⟨gp, by omega, hoB this⟩
    · obtain ⟨hs2, hs3⟩ := hold s hs e
      obtain ⟨p, hp, hp2⟩ := s3.2.2.2 s hs2
      rcases Nat.lt_or_ge p gp with q | q
      · exact ⟨p, by omega, by rw [hoA p q]; exact hp2⟩
      · rcases Nat.lt_or_ge p (gp + gn) with q2 | q2
        · exact absurd (by rw [show gp + (p - gp) = p by omega]; exact hp2) (hs3 (p - gp) (by omega))
        · exact ⟨p - gn + kp, by omega, by rw [hoC _ (by omega), show p - gn + kp + gn - kp = p by omega]; exact hp2⟩
  -- WS
  · by_cases e : s = s0
    · subst e
      rw [va_s, va_s]
      exact ⟨hgw, hnk, t4⟩
    · rw [va_n e, va_n e]
      exact s4 s (hold s hs e).1
  -- WA
  · by_cases e : s = s0
    · subst e
      rw [va_s, (hnew (hnew0 hs)).1]
      omega
    · rw [va_n e]
      have := s5.1 s (hold s hs e).1
      omega
  · by_cases e1 : s = s0
    · by_cases e2 : r = s0
      · omega
      · rw [e1, va_s, va_n e2]
        have := s5.1 r (hold r hr e2).1
        exact Or.inr (by omega)
    · by_cases e2 : r = s0
      · rw [e2, va_s, va_n e1]
        have := s5.1 s (hold s hs e1).1
        exact Or.inl (by omega)
      · rw [va_n e1, va_n e2]
        exact s5.2 s r (hold s hs e1).1 (hold r hr e2).1 e
  -- RN
  · rw [hX0.2.2.1, e17, rn.2.1]
  · rw [hI _ _ (by omega) (SE_0 (by omega))]; exact rn.2.2.1
  · rw [hI _ _ (by omega) (SE_12 (by omega))]; exact rn.2.2.2
  · by_cases e : s = s0
    · subst e
      have k1 := hnew0 hs
      rw [va_s, va_s]
      have := mxT_le (T := fun k => ti (od (gp + k))) (gn := gn) (B := c) (fun k hk => (wn.2.2.1 _ (hsrc k hk)).2)
      omega
    · rw [va_n e, va_n e]
      have := wn.2.2.1 s (hold s hs e).1
      omega
  · by_cases e1 : s = s0
    · by_cases e2 : r = s0
      · omega
      · rw [e1, va_s, va_n e2] at e
        have := (wn.2.2.1 r (hold r hr e2).1).1
        omega
    · by_cases e2 : r = s0
      · rw [e2, va_s, va_n e1] at e
        have := (wn.2.2.1 s (hold s hs e1).1).1
        omega
      · rw [va_n e1, va_n e2] at e
        exact wn.2.2.2 s r (hold s hs e1).1 (hold r hr e2).1 e
  -- RV
  · rw [hI _ _ (by omega) (SE_b (by omega)), hI _ _ (by omega) (SE_b (by omega))]
    exact l1 k hk
  -- RM
  · rw [hI _ _ (by omega) (SE_b (by omega))]; exact l3.1.1
  · rw [hI _ _ (by omega) (SE_12 (by omega))]; exact l3.1.2
  · rw [hI _ _ (by omega) (SE_b (by omega)), hI _ _ (by omega) (SE_b (by omega)), hI _ _ (by omega) (SE_b (by omega))]
    exact l3.2 j hj
  -- RLv
  · by_cases e : s = s0
    · subst e
      obtain ⟨n1, n2, n3, ⟨n4, n5, n6, n7⟩, n8, ⟨n9, n10, n11, n12⟩, n13⟩ := hnew (hnew0 hs)
      rw [va_s, va_s, va_s]
      exact ⟨⟨n7, fun i hi => (n8 i hi).2.2⟩, fun i hi => (n13 i hi).1.2.2⟩
    · obtain ⟨hs2, -⟩ := hold s hs e
      have hsz := (s4 s hs2).1
      rw [va_n e, va_n e, va_n e]
      refine ⟨(hSg s hs2).2, fun i hi => ?_⟩
      rw [hI _ _ (by omega) (SE_r (Or.inr (Or.inr rfl)) e (by omega))]
      exact (l5 s hs2).2 i hi
  -- RLo
  · refine ⟨by rw [hI _ _ (by omega) (SE_b (by omega))]; exact (l6 k hk).1, ?_⟩
    rcases hloc2 k with ⟨j, q1, q2, q3, q4⟩ | ⟨q1, q2⟩
    · rw [q4]
      refine ⟨fun q => (by cases q), fun s i q => ?_⟩
      cases q
      rw [← q3]
      exact ((hnew (hkpw (by omega))).2.2.2.2.2.2 j q1).2 q2
    · rw [q2, (hky k q1).1, (hky k q1).2]
      exact (l6 k hk).2
  -- WL
  · rcases hloc2 k with ⟨j, q1, q2, q3, q4⟩ | ⟨q1, q2⟩
    · rw [q4] at hl
      cases hl
      refine ⟨by rw [va_s, hkpw (by omega)]; rfl, hs0, by rw [va_s]; exact q1, by rw [va_s]; exact q3, by rw [va_s]; exact q2⟩
    · rw [q2] at hl
      obtain ⟨u1, u2, u3, u4, u5⟩ := l7.1 k s i hk hl
      have hns : ∀ r, r < gn → od (gp + r) ≠ s := fun r hr e => by
        subst e
        obtain ⟨j, j1, j2, j3, j4⟩ := hsl r i hr u3 u5
        refine q1 j j1 (by rw [j2, j3]; exact u5) (by rw [j4]; exact u4)
      have hs9 : us1 s = true := by rw [hu2 s hns]; exact u1
      have hs8 : s ≠ s0 := fun e => by rw [e, hu0] at hs9; cases hs9
      rw [va_n hs8, va_n hs8, va_n hs8, va_n hs8]
      exact ⟨hs9, u2, u3, u4, u5⟩
  · by_cases e : s = s0
    · subst e
      rw [va_s] at hi hl
      rw [va_s]
      have hl2 : lv (od (gp + wk i)) (wi i) = true := hl
      rcases hloc2 (nk i) with ⟨j, q1, q2, q3, q4⟩ | ⟨q1, q2⟩
      · have : j = i := by
          rcases Nat.lt_trichotomy i j with z | z | z
          · have := t4 i j z q1; omega
          · exact z.symm
          · have := t4 j i z hi; omega
        rw [q4, this]
      · exact absurd rfl (q1 i hi hl2)
    · obtain ⟨hs2, hs3⟩ := hold s hs e
      rw [va_n e] at hi hl
      rw [va_n e]
      have u := l7.2.1 s i hs2 hi hl
      rcases hloc2 (rk s i) with ⟨j, q1, q2, q3, q4⟩ | ⟨q1, q2⟩
      · have := hloA j q1 q2
        rw [q3, u] at this
        have h9 := congrArg Prod.fst (Option.some.inj this)
        exact absurd h9.symm (hs3 (wk j) (t3 j q1).1)
      · rw [q2]; exact u
  · rw [l7.2.2.1 k hk]
    rcases hloc2 k with ⟨j, q1, q2, q3, q4⟩ | ⟨q1, q2⟩
    · have := hloA j q1 q2
      rw [q3] at this
      rw [q4, this]
      constructor
      · rintro (q | q)
        · exact Or.inl q
        · exact Or.inr (fun z => by cases z)
      · rintro (q | q)
        · exact Or.inl q
        · exact Or.inr (fun z => by cases z)
    · rw [q2]
  · rcases hloc2 (mk j) with ⟨i, q1, q2, q3, q4⟩ | ⟨q1, q2⟩
    · have := hloA i q1 q2
      rw [q3, l7.2.2.2 j hj] at this
      cases this
    · rw [q2]; exact l7.2.2.2 j hj
  -- RD
  · obtain ⟨⟨k0, k1, k2, k3⟩, -⟩ := hMg
    have d0 := hD ca (by omega) (by omega)
    have d1 := hD (ca + 1) (by omega) (by omega)
    rw [d0.1, d0.2.2.1, d1.1, d1.2.1]
    exact ⟨k0, k1, k2, k3⟩
  · have d1 := hD (ca + 1) (by omega) (by omega)
    have g := (hSg _ (hsrc k hk)).1
    exact ⟨by rw [d1.2.2.1]; exact hMg.2 k hk, g.1.1, g.1.2.2.2.2, g.2.1.2.2.2, g.2.2.1.2.2.2⟩
  · have g := (hSg _ (hsrc k hk)).1
    exact ⟨g.2.2.2.1.1, g.2.2.2.1.2.2, (e3x k hk).1.1, (e3x k hk).1.2⟩
  · exact ⟨hwt k hk i hi, (e3x k hk).2 i hi⟩
  -- WD
  · exact (s4 _ (hsrc k hk)).1
  · have h1 := (wn.2.2.1 _ (hsrc k hk)).1
    have h2 := wn.1
    show num (od (gp + k)) ≤ c + 1
    omega
  · exact (s5.1 _ (hsrc k hk)).1
  · exact Nat.le_trans (s5.1 _ (hsrc k hk)).2 hz
  · by_cases e : s = s0
    · rw [e, va_s]
      exact Or.inl (s5.1 _ (hsrc k hk)).2
    · rw [va_n e]
      exact s5.2 _ s (hsrc k hk) (hold s hs e).1 ((hold s hs e).2 k hk)
  · rcases t2 k i hk hi with q | ⟨j, q1, q2, -⟩
    · exact Or.inl q
    · exact Or.inr ⟨j, by omega, q2⟩
  · have e1 := wn.2.2.2 _ _ (hsrc i hi) (hsrc j hj) e
    have := s3.2.2.1 (gp + i) (gp + j) (by omega) (by omega) e1
    omega
  · by_cases e : s = s0
    · rw [e, va_s]
      exact Or.inl (by omega)
    · rw [va_n e]
      exact hc3 s (hold s hs e).1
end IEND

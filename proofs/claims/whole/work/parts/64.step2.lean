section STEP2
variable {X c : Nat} {m : Mem}
theorem EQf_us {gp gn gw nS nn kp : Nat} {us2 us3 : Nat → Bool} {od N Z : Nat → Nat} {gg : Nat → Nat → Int32} {m m2 mo : Mem} (h : EQf X gp gn gw nS nn kp us2 od N Z gg m m2) (e : ∀ s, us2 s = us3 s) (e17 : mI m (X + 12) 17 = mI mo (X + 12) 17) : EQf X gp gn gw nS nn kp us3 od N Z gg mo m2 := by
  obtain ⟨⟨a1, a2, a3, a4, a5⟩, h2, h3, h4⟩ := h
  exact ⟨⟨a1, a2, by rw [a3, e17], a4, a5⟩, h2, fun s hs => by rw [← e s]; exact h3 s hs, h4⟩
theorem cnt_pos {f : Nat → Bool} {n : Nat} : 0 < cnt f n ↔ ∃ k, k < n ∧ f k = true := by
  induction n with
  | zero => exact ⟨fun h => absurd h (Nat.lt_irrefl 0), fun ⟨k, hk, _⟩ => absurd hk (by omega)⟩
  | succ n ih =>
    unfold cnt
    constructor
    · intro h
      by_cases e : f n = true
      · exact ⟨n, by omega, e⟩
      · rw [if_neg e] at h
        obtain ⟨k, hk, q⟩ := ih.mp h
        exact ⟨k, by omega, q⟩
    · rintro ⟨k, hk, q⟩
      by_cases e : k = n
      · rw [← e, if_pos q]; omega
      · have := ih.mpr ⟨k, by omega, q⟩
        omega
/-- the end of a merge, both sides, and the state after it -/
theorem end_both {nS nn : Nat} {us : Nat → Bool} {od sa sz num ti : Nat → Nat} {rk : Nat → Nat → Nat} {rv : Nat → Nat → Int32} {lv : Nat → Nat → Bool} {v : Nat → Int32} {nM : Nat} {mk : Nat → Nat} {loc : Nat → Option (Nat × Nat)} {tt : Nat → Nat} {gn gp gt gw ca : Nat} {gg : Nat → Nat → Int32} {wk wi nk : Nat → Nat} {nv : Nat → Int32} {nt : Nat → Nat} {mC : Mem}
    (hc : c ≤ 4096) (hL : SL X m) (hw : IW X m) (hIS : IS X c nS nn us od sa sz num ti rk rv m) (hIL : IL X us sa sz rk lv v nM mk loc tt m) (htt : ∀ k, k < 100 → tt k ≤ c)
    (hg : 2 ≤ gn ∧ gn ≤ 6 ∧ gp + gn ≤ nS) (hca : X + 37 ≤ ca ∧ ca + 3 ≤ mS m ∧ ∀ s, us s = true → dj ca 3 (sa s) 5)
    (hWX : WX X ca gp gn (fun k => sa (od (gp + k)))) (hWZ : WZ gn (fun k => sz (od (gp + k))) (fun k => rk (od (gp + k))) (fun k => lv (od (gp + k))))
    (hWT : WT gn gt gw 0 (fun k => sz (od (gp + k))) (fun k => sz (od (gp + k))) (fun k => rk (od (gp + k))) (fun k => rv (od (gp + k))) (fun k => lv (od (gp + k))) gg wk wi nk nv nt tt)
    (hC : CM X ca gp gn gt gw 0 (fun k => sa (od (gp + k))) (fun k => num (od (gp + k))) (fun k => ti (od (gp + k))) (fun k => sz (od (gp + k))) (fun k => sz (od (gp + k))) (fun k => rk (od (gp + k))) (fun k => rv (od (gp + k))) (fun k => lv (od (gp + k))) gg mC)
    (hA1 : Ag (SC ca gn (fun k => sa (od (gp + k)))) m mC) :
    ∃ m1, f_X3_endMerge X ca mC = some ((), m1) ∧ SL X m1 ∧ (∀ b j, X + 12 ≤ b → b < X + 37 → mI m1 b j = mI m b j) ∧ ∀ mQ, QM X gp gn gt gw (fun k => od (gp + k)) (fun k => num (od (gp + k))) (fun k => ti (od (gp + k))) (fun k => sz (od (gp + k))) (fun k => sz (od (gp + k))) (fun k => rk (od (gp + k))) (fun k => rv (od (gp + k))) (fun k => lv (od (gp + k))) gg nk nv nt tt mQ → Ag (fun b j => (b = X + 12 ∧ j = 0) ∨ SQ X b j) m1 mQ → ∃ m2, f_X4_end (X + 12) mQ = some ((), m2) ∧ Inv X (c + 1) m2 := by
  obtain ⟨s1, s2, s3, s4, s5, F, rn, wn⟩ := id hIS
  obtain ⟨hg2, hg6, hgS⟩ := hg
  obtain ⟨hc1, hc2, hc3⟩ := hca
  have h20 := s3.1
  have hgw := WT_gw hWT hWZ
  have hsrc : ∀ k, k < gn → us (od (gp + k)) = true := fun k hk => (s3.2.1 (gp + k) (by omega)).2
  have hzC : mS mC = mS m := hA1.2.2.2.1
  have hX := hL.1
  have stC : ∀ b j, b < X + 37 → mI mC b j = mI m b j := fun b j hb => hA1.2.2.2.2 _ _ (fun q => by
    rcases q with q | q | ⟨k, hk, q⟩
    · omega
    · omega
    · have := (s5.1 _ (hsrc k hk)).1
      have q' : b = sa (od (gp + k)) + 4 := q
      omega)
  have hT : ∀ k, k < gn → ti (od (gp + k)) ≤ c := fun k hk => (wn.2.2.1 _ (hsrc k hk)).2
  have hR : ∀ q, q < nS → mR mC (X + 5) q = some (sa (od q)) ∧ mK mC (sa (od q)) = 2 ∧ sa (od q) < mS mC := fun q hq => by
    have w := s5.1 _ (s3.2.1 q hq).2
    rw [hA1.2.2.1, hA1.1, hzC]
    exact ⟨(s1.2.1 q hq).1, (s2 _ (s3.2.1 q hq).2).1.1.1, by omega⟩
  have comp : ∃ kp m1, ((kp = 0 ∧ gw = 0) ∨ (kp = 1 ∧ 0 < gw)) ∧ f_X3_endMerge X ca mC = some ((), m1) ∧ SL X m1 ∧ EXf X ca gp gn gw nS nn kp (fun p => sa (od p)) mC m1 ∧ (kp = 1 → mR m1 (X + 5) gp = some (mS m) ∧ mS m1 = mS m + 5 ∧ SgK m1 (mS m) gw ∧ (mI m1 (mS m) 0 = nI nn ∧ mI m1 (mS m) 1 = nI (mxT (fun k => ti (od (gp + k))) gn + 1) ∧ mI m1 (mS m) 2 = nI gw ∧ mI m1 (mS m) 7 = nI (cnt (fun j => lv (od (gp + wk j)) (wi j)) gw)) ∧ ∀ j, j < gw → mI m1 (mS m + 1) j = nI (nk j) ∧ mI m1 (mS m + 2) j = nv j ∧ mI m1 (mS m + 3) j = b2i (lv (od (gp + wk j)) (wi j))) := by
    by_cases e : gw = 0
    · subst e
      obtain ⟨m1, e1, e2, e3⟩ := end_x0 (nn := nn) (B := fun p => sa (od p)) hg2 h20 hgS hWX hC (by rw [stC _ _ (by omega)]; exact s1.1.1) (by rw [stC _ _ (by omega)]; exact rn.1.1) (fun q hq => ⟨(hR q hq).1, (hR q hq).2.1⟩)
      exact ⟨0, m1, Or.inl ⟨rfl, rfl⟩, e1, e2, e3, fun q => absurd q (by omega)⟩
    · obtain ⟨m1, e1, e2, e3, e4⟩ := end_x1 (nn := nn) (B := fun p => sa (od p)) (bB := c) (by omega) hT hg2 (by omega) h20 hgS hWT hWZ hWX hC (by omega) (fun k hk => by rw [hzC]; exact (s5.1 _ (hsrc k hk)).2) (by rw [stC _ _ (by omega)]; exact s1.1.1) (by rw [stC _ _ (by omega)]; exact rn.1.1) hR
      rw [hzC] at e4
      exact ⟨1, m1, Or.inr ⟨rfl, by omega⟩, e1, e2, e3, fun _ => e4⟩
  obtain ⟨kp, m1, hkp, c1, hL1, ⟨⟨x1, x2⟩, x3, x4, x5, x6, x7, x8⟩, hn1⟩ := comp
  refine ⟨m1, c1, hL1, fun b j hb1 hb2 => by rw [x3 b j hb2 (by omega), stC b j hb2], fun mQ hQ hAQ => ?_⟩
  obtain ⟨us1, hus1⟩ : ∃ us1 : Nat → Bool, us1 = fun s => us s && !decide (0 < cnt (fun k => decide (od (gp + k) = s)) gn) := ⟨_, rfl⟩
  have hu1 : ∀ k, k < gn → us1 (od (gp + k)) = false := fun k hk => by
    have : 0 < cnt (fun r => decide (od (gp + r) = od (gp + k))) gn := cnt_pos.mpr ⟨k, hk, by simp⟩
    rw [hus1]
    simp [this]
  have hu2 : ∀ s, (∀ k, k < gn → od (gp + k) ≠ s) → us1 s = us s := fun s hs => by
    have : ¬ 0 < cnt (fun r => decide (od (gp + r) = s)) gn := fun q => by
      obtain ⟨k, hk, e⟩ := cnt_pos.mp q
      exact hs k hk (of_decide_eq_true e)
    rw [hus1]
    simp [this]
  have stQ : ∀ b j, X + 12 ≤ b → b < X + 37 → ¬ (b = X + 12 ∧ j = 0) → ¬ SQ X b j → mI mQ b j = mI m b j := fun b j h1 h2 h3 h4 => by
    rw [hAQ.2.2.2.2 _ _ (fun q => q.elim h3 h4), x3 b j h2 (by omega), stC b j h2]
  have nq : ∀ b j, X + 12 < b → b < X + 26 → ¬ SQ X b j := fun b j h1 h2 q => by unfold SQ at q; omega
  have nq12 : ∀ j, j ≠ 21 → j ≠ 22 → ¬ SQ X (X + 12) j := fun j h1 h2 q => by unfold SQ at q; omega
  have hus : ∀ s, s < 21 → mI mQ (X + 19) s = b2i (us s) := fun s hs => by rw [stQ _ _ (by omega) (by omega) (by omega) (nq _ _ (by omega) (by omega))]; exact s1.2.2 s hs
  have h7 : mI mQ (X + 12) 7 = nI nS := by rw [stQ _ _ (by omega) (by omega) (by omega) (nq12 _ (by omega) (by omega))]; exact s1.1.2
  have h16 : mI mQ (X + 12) 16 = nI nn := by rw [stQ _ _ (by omega) (by omega) (by omega) (nq12 _ (by omega) (by omega))]; exact rn.1.2
  have h17 : mI mQ (X + 12) 17 = mI m (X + 12) 17 := stQ _ _ (by omega) (by omega) (by omega) (nq12 _ (by omega) (by omega))
  have ho : ∀ p, p < nS → mI mQ (X + 18) p = nI (od p) := fun p hp => by rw [stQ _ _ (by omega) (by omega) (by omega) (nq _ _ (by omega) (by omega))]; exact (s1.2.1 p hp).2
  have h15 : ∀ a, mI mQ (X + 15) a = mI m (X + 15) a ∧ mI mQ (X + 16) a = mI m (X + 16) a := fun a => ⟨stQ _ _ (by omega) (by omega) (by omega) (nq _ _ (by omega) (by omega)), stQ _ _ (by omega) (by omega) (by omega) (nq _ _ (by omega) (by omega))⟩
  have hO : ∀ k r, k < gn → r < gn → od (gp + k) = od (gp + r) → k = r := fun k r hk hr e => by
    have := s3.2.2.1 (gp + k) (gp + r) (by omega) (by omega) e
    omega
  have hnk : ∀ j, j < gw → nk j < 100 := fun j hj => by
    obtain ⟨y1, y2, -, y4, -⟩ := hWT.2.2.1 j hj
    rw [y4]
    exact (hWZ.1 _ y1).2.1 _ y2
  have ref : ∃ s0 m2, s0 < 21 ∧ us1 s0 = false ∧ f_X4_end (X + 12) mQ = some ((), m2) ∧ SL X m2 ∧ Ag (S2 X gp s0) mQ m2 ∧ EQf X gp gn gw nS nn kp (va_up us1 s0 (decide (kp = 1))) od (fun k => num (od (gp + k))) (fun k => sz (od (gp + k))) gg m m2 ∧ (∀ a, (∀ q, q < gw → lv (od (gp + wk q)) (wi q) = true → nk q ≠ a) → mI m2 (X + 15) a = mI m (X + 15) a ∧ mI m2 (X + 16) a = mI m (X + 16) a) ∧ (kp = 1 → (mI m2 (X + 18) gp = nI s0 ∧ mI m2 (X + 20) s0 = nI nn ∧ mI m2 (X + 21) s0 = nI (mxT (fun k => ti (od (gp + k))) gn + 1) ∧ mI m2 (X + 22) s0 = nI gw) ∧ ∀ q, q < gw → (mI m2 (X + 23) (100 * s0 + q) = nI (nk q) ∧ mI m2 (X + 24) (100 * s0 + q) = nv q ∧ mI m2 (X + 25) (100 * s0 + q) = b2i (lv (od (gp + wk q)) (wi q))) ∧ (lv (od (gp + wk q)) (wi q) = true → mI m2 (X + 15) (nk q) = nI s0 ∧ mI m2 (X + 16) (nk q) = nI q)) := by
    rcases hkp with ⟨rfl, rfl⟩ | ⟨rfl, hw0⟩
    · have hs0 := (s3.2.1 (gp + 0) (by omega)).1
      obtain ⟨m2, e1, e2, e3, e4, e5⟩ := end_q0 (nn := nn) (od := od) (s0 := od (gp + 0)) (B := c) (by omega) hT hg2 hg6 h20 hgS hWZ hO hQ hus hu1 hu2 h7 h16 ho
      refine ⟨od (gp + 0), m2, hs0, hu1 0 (by omega), e1, e2, e3, EQf_us e4 (fun s => ?_) h17, fun a _ => ?_, fun q => absurd q (by omega)⟩
      · by_cases e : s = od (gp + 0)
        · rw [e, va_s, hu1 0 (by omega)]; rfl
        · rw [va_n e]
      · rw [(e5 a).1, (e5 a).2]
        exact h15 a
    · obtain ⟨s0, hs0, hf0, hf1⟩ := least_free (us := us1) (n := 21) ⟨od (gp + 0), (s3.2.1 (gp + 0) (by omega)).1, hu1 0 (by omega)⟩
      obtain ⟨m2, e1, e2, e3, e4, e5, e6, e7⟩ := end_q1 (nn := nn) (od := od) (s0 := s0) (B := c) (al := fun j => lv (od (gp + wk j)) (wi j)) (by omega) hT hg2 hg6 hw0 hgw h20 hgS hWZ hO hQ hus hu1 hu2 h7 h16 ho hs0 hf0 hf1 hnk hWT.2.2.2.1 (fun j hj => by
        obtain ⟨-, -, -, -, -, y6, y7⟩ := hWT.2.2.1 j hj
        have := htt _ (hnk j hj)
        show lv (od (gp + wk j)) (wi j) = true ↔ _
        rw [nI_eq (by omega) (by omega)]
        exact y7)
      refine ⟨s0, m2, hs0, hf0, e1, e2, e3, EQf_us e4 (fun s => rfl) h17, fun a ha => ?_, fun _ => ⟨e6, e7⟩⟩
      rw [(e5 a ha).1, (e5 a ha).2]
      exact h15 a
  obtain ⟨s0, m2, hs0, hf0, e1, hL2, e3, e4, e5, e6⟩ := ref
  refine ⟨m2, e1, ?_⟩
  have dQ : ∀ b, X + 37 ≤ b → mK m2 b = mK m1 b ∧ mN m2 b = mN m1 b ∧ mR m2 b = mR m1 b ∧ mI m2 b = mI m1 b := fun b hb => by
    refine ⟨by rw [e3.1, hAQ.1], by rw [e3.2.1, hAQ.2.1], by rw [e3.2.2.1, hAQ.2.2.1], funext fun j => ?_⟩
    rw [e3.2.2.2.2 _ _ (fun q => by unfold S2 at q; omega), hAQ.2.2.2.2 _ _ (fun q => by
      rcases q with q | q
      · omega
      · unfold SQ at q; omega)]
  have lowI : ∀ b j, b < X + 12 → mI m2 b j = mI m1 b j := fun b j hb => by
    rw [e3.2.2.2.2 _ _ (fun q => by unfold S2 at q; omega), hAQ.2.2.2.2 _ _ (fun q => by
      rcases q with q | q
      · omega
      · unfold SQ at q; omega)]
  have rQ : mR m2 = mR m1 := by rw [e3.2.2.1, hAQ.2.2.1]
  have zQ : mS m2 = mS m1 := by rw [e3.2.2.2.1, hAQ.2.2.2.1]
  refine Inv_end (gt := gt) (wk := wk) (wi := wi) (nk := nk) (nv := nv) (nt := nt) (gg := gg) hL2 hX hw hIS hIL htt ⟨hg2, hg6, hgS⟩ ⟨hc1, hc2, hc3⟩ ?_ hWT hkp hs0 hf0 hu1 hu2 (fun b h1 h2 => ?_) (fun b j hb hS => ?_) (by omega) ?_ ?_ e4 (fun k hk i hi => ?_) e5 (fun hk => ?_)
  · obtain ⟨⟨k0, k1, k2, k3, k4, k5, k6⟩, -, hM⟩ := hC.2.2.1
    rw [hA1.1] at k0 k3
    rw [hA1.2.2.1] at k1
    rw [hA1.2.1] at k5
    refine ⟨⟨k0, k1, k3, k5⟩, fun k hk => ?_⟩
    have := (hM k hk).1
    rw [hA1.2.2.1] at this
    exact this
  · obtain ⟨d1, d2, d3, d4⟩ := dQ b h1
    obtain ⟨y1, y2, y3, y4⟩ := x1 b h1 (by omega)
    refine ⟨by rw [d1, y1, hA1.1], by rw [d2, y2, hA1.2.1], by rw [d3, y4, hA1.2.2.1], fun j hj => ?_⟩
    rw [d4, y3]
    exact hA1.2.2.2.2 _ _ hj
  · rcases Nat.lt_or_ge b (X + 12) with q | q
    · rw [lowI b j q, x3 b j hb (fun z => hS (Or.inl z)), stC b j hb]
    · have n1 : ¬ S2 X gp s0 b j := fun z => hS (by
        rcases z with ⟨z1, z2⟩ | z | z | z | z | z | z | z
        · exact Or.inr (Or.inl ⟨z1, by omega⟩)
        · exact Or.inr (Or.inr (Or.inl z))
        · exact Or.inr (Or.inr (Or.inr (Or.inl z)))
        · exact Or.inr (Or.inr (Or.inr (Or.inr (Or.inl z))))
        · exact Or.inr (Or.inr (Or.inr (Or.inr (Or.inr (Or.inl z)))))
        · exact Or.inr (Or.inr (Or.inr (Or.inr (Or.inr (Or.inr (Or.inl z))))))
        · exact Or.inr (Or.inr (Or.inr (Or.inr (Or.inr (Or.inr (Or.inr (Or.inl z)))))))
        · exact Or.inr (Or.inr (Or.inr (Or.inr (Or.inr (Or.inr (Or.inr (Or.inr (by omega)))))))))
      have n2 : ¬ SQ X b j := fun z => hS (by
        rcases z with ⟨z1, z2⟩ | z
        · exact Or.inr (Or.inl ⟨z1, by omega⟩)
        · exact Or.inr (Or.inr (Or.inr (Or.inr (Or.inr (Or.inr (Or.inr (Or.inr (by omega)))))))))
      have n3 : ¬ (b = X + 12 ∧ j = 0) := fun z => hS (Or.inr (Or.inl ⟨z.1, Or.inl z.2⟩))
      rw [e3.2.2.2.2 _ _ n1, stQ b j q hb n3 n2]
  · obtain ⟨y1, y2, y3, y4, y5⟩ := x6
    rw [lowI _ _ (by omega), lowI _ _ (by omega), lowI _ _ (by omega), rQ]
    rw [stC _ _ (by omega)] at y3
    exact ⟨y1, y2, y3, y4, y5⟩
  · rw [rQ]
    refine ⟨fun p hp => ?_, x8⟩
    rw [x7 p hp, hA1.2.2.1]
  · have w := s5.1 _ (hsrc k hk)
    rw [(dQ _ (by omega)).2.2.2, (x1 _ (by omega) (by omega)).2.2.1]
    exact (hC.2.2.2 k hk).1 i hi
  · obtain ⟨z1, z2, z3, ⟨z4, z5, z6, z7⟩, z8⟩ := hn1 hk
    obtain ⟨y1, y2⟩ := e6 hk
    refine ⟨by rw [zQ]; exact z2, by rw [rQ]; exact z1, ?_, ?_, fun j hj => ?_, y1, y2⟩
    · unfold SgK at z3 ⊢
      obtain ⟨d1, d2, d3, d4⟩ := dQ (mS m) hX
      have q1 := dQ (mS m + 1) (by omega)
      have q2 := dQ (mS m + 2) (by omega)
      have q3 := dQ (mS m + 3) (by omega)
      have q4 := dQ (mS m + 4) (by omega)
      rw [d1, d3, q1.1, q2.1, q3.1, q4.1, q1.2.1, q2.2.1, q3.2.1, q4.2.1]
      exact z3
    · rw [(dQ (mS m) hX).2.2.2]
      exact ⟨z4, z5, z6, z7⟩
    · rw [(dQ (mS m + 1) (by omega)).2.2.2, (dQ (mS m + 2) (by omega)).2.2.2, (dQ (mS m + 3) (by omega)).2.2.2]
      exact z8 j hj
end STEP2

/-! cheapest, worst, share, moved -/
theorem inv_PPa {X c : Nat} {m : Mem} (h : Inv X c m) (hc : c ≤ 4096) : ∃ nS ad s t z l, PX X nS ad t z l m ∧ ∀ m' : Mem, SL X m' → (∀ b j, b < X + 36 → ¬ (b = X + 12 ∧ j = 0) → mI m' b j = mI m b j) → PQ X nS s t z l m' := by
  have hL := h.1
  obtain ⟨-, -, nS, nn, us, od, sa, sz, num, ti, rk, rv, lv, v, nM, mk, loc, tt, gn, ca, hIS, hIL, -, -⟩ := h
  obtain ⟨s1, s2, s3, s4, s5, F, rn, wn⟩ := hIS
  refine ⟨nS, fun p => sa (od p), od, fun p => ti (od p), fun p => sz (od p), fun p => cnt (lv (od p)) (sz (od p)), ⟨hL, s1.1.1, s3.1, fun p hp => ?_⟩, fun m' hL2 hm => ⟨hL2, by rw [hm _ _ (by omega) (by omega)]; exact s1.1.2, s3.1, fun p hp => ?_⟩⟩
  · obtain ⟨o1, o2⟩ := s3.2.1 p hp
    obtain ⟨⟨⟨y1, y2, y3, y4, y5⟩, ⟨y6, y7, y8, y9⟩, ⟨z1, z2, z3, z4⟩, ⟨z5, z6, z7⟩, z8⟩, -⟩ := s2 _ o2
    have hz := (s4 _ o2).1
    have hq := cnt_le (lv (od p)) (sz (od p))
    exact ⟨(s1.2.1 p hp).1, y1, z6, z7, (hIL.2.2.2.2.1 _ o2).1.1, hz, Nat.le_trans hq hz, Nat.le_trans (wn.2.2.1 _ o2).2 hc⟩
  · obtain ⟨o1, o2⟩ := s3.2.1 p hp
    obtain ⟨-, ⟨⟨x1, x2, x3⟩, x4⟩⟩ := s2 _ o2
    have hz := (s4 _ o2).1
    have hq := cnt_le (lv (od p)) (sz (od p))
    have x3' : mI m' (X + 22) (od p) = nI (sz (od p)) := by rw [hm _ _ (by omega) (by omega)]; exact x3
    exact ⟨by rw [hm _ _ (by omega) (by omega)]; exact (s1.2.1 p hp).2, o1, by rw [hm _ _ (by omega) (by omega)]; exact x2, x3', living_eq hL2 o1 x3' hz (fun i hi => by rw [hm _ _ (by omega) (by omega)]; exact (hIL.2.2.2.2.1 _ o2).2 i hi), hz, Nat.le_trans hq hz, Nat.le_trans (wn.2.2.1 _ o2).2 hc⟩
theorem canBe_spec (a : Int32) (m : Mem) : (∃ k, 2 ≤ k ∧ k < 7 ∧ a = nI k ∧ f_X3_canBeMerged a m = some (1, m)) ∨ ((∀ k, 2 ≤ k → k < 7 → a ≠ nI k) ∧ f_X3_canBeMerged a m = some (0, m)) := by
  unfold f_X3_canBeMerged
  by_cases h2 : a < 2
  · refine Or.inr ⟨fun k hk1 hk2 q => ?_, by rw [i_t h2]; rfl⟩
    rw [q] at h2
    exact ltL (n := 2) hk1 (by omega) h2
  · rw [i_f h2]
    by_cases h6 : (6 : Int32) < a
    · refine Or.inr ⟨fun k hk1 hk2 q => ?_, by rw [i_t h6]; rfl⟩
      rw [q] at h6
      exact ltL (k := 6) (by omega) (by decide) h6
    · rw [i_f h6]
      rw [Int32.lt_iff_toInt_lt] at h2 h6
      have e2 : (2 : Int32).toInt = 2 := rfl
      have e6 : (6 : Int32).toInt = 6 := rfl
      obtain ⟨k, hk3, rfl⟩ := nI_ofInt (a := a) (n := 7) (by omega) (by omega) (by decide)
      rw [nI_toInt (by omega)] at h2
      exact Or.inl ⟨k, by omega, hk3, rfl, rfl⟩
section CH
variable {X nS : Nat} {ad s t z l : Nat → Nat} {m m2 : Mem}
theorem sum_q (g : PQ X nS s t z l m) {p n : Nat} (hpn : p + n ≤ nS) (x y : Int32) : f_X4_cheapest_L43 2100 (X + 12) (nI n) x y (nI p) 0 0 m = some ((nI (sumF (fun k => l (p + k)) n), nI n), m) := by
  obtain ⟨hL, h3, hn, hp⟩ := g
  have L : ∀ d f k, k + d = n → d < f → f_X4_cheapest_L43 f (X + 12) (nI n) x y (nI p) (nI (sumF (fun k => l (p + k)) k)) (nI k) m = some ((nI (sumF (fun k => l (p + k)) n), nI n), m) := by
    intro d
    induction d with
    | zero =>
      intro f k hk hf
      obtain ⟨f, rfl⟩ : ∃ g, f = g + 1 := ⟨f - 1, by omega⟩
      have : k = n := by omega
      subst this
      unfold f_X4_cheapest_L43
      rw [i_t (leL (Nat.le_refl _) (by omega))]
      rfl
    | succ d ih =>
      intro f k hk hf
      obtain ⟨f, rfl⟩ : ∃ g, f = g + 1 := ⟨f - 1, by omega⟩
      obtain ⟨p1, p2, p3, p4, p5, -⟩ := hp (p + k) (by omega)
      unfold f_X4_cheapest_L43
      rw [i_f (leN (by omega) (by omega)), q_gN12_8 hL, nI_add, q_lI18 hL (by omega), p1, q_cl12 hL, b_eq p5, nI_add, nI_1]
      exact ih f (k + 1) (by omega) (by omega)
  exact L n 2100 0 (by omega) (by omega)
theorem sum_le20 {p n : Nat} (hl : ∀ k, k < nS → l k ≤ 100) (hpn : p + n ≤ nS) (hn : nS ≤ 20) : sumF (fun k => l (p + k)) n ≤ 100 * n := sumF_le (fun k hk => hl (p + k) (by omega))
theorem cheap_xq (h : PX X nS ad t z l m) (g : PQ X nS s t z l m2) {n : Nat} (h2 : 2 ≤ n) (h6 : n ≤ 6) : ∀ d f f2 k b w, k + d = 21 → d < f → d < f2 → b < nS → w ≤ 600 → ∃ (b2 : Nat) (x y x2 y2 : Int32), b2 < nS ∧ f_X3_cheapest_L33 f X (nI n) (nI b) (nI w) (nI k) m = some ((nI b2, x, y), m) ∧ f_X4_cheapest_L26 f2 (X + 12) (nI n) (nI b) (nI w) (nI k) m2 = some ((nI b2, x2, y2), m2) := by
  intro d
  have h' := h
  have g' := g
  obtain ⟨hL, h3, hn, hp⟩ := h'
  obtain ⟨hL2, h32, hn2, hp2⟩ := g'
  induction d with
  | zero =>
    intro f f2 k b w hk hf hf2 hb hw
    obtain ⟨f, rfl⟩ : ∃ g, f = g + 1 := ⟨f - 1, by omega⟩
    obtain ⟨f2, rfl⟩ : ∃ g, f2 = g + 1 := ⟨f2 - 1, by omega⟩
    refine ⟨b, nI w, nI k, nI w, nI k, hb, ?_, ?_⟩
    · unfold f_X3_cheapest_L33
      rw [q_gI0 hL, h3, nI_add, i_t ((nI_ltI (by omega) (by omega)).mpr (by omega))]
      rfl
    · unfold f_X4_cheapest_L26
      rw [q_gI12 hL2, h32, nI_add, i_t ((nI_ltI (by omega) (by omega)).mpr (by omega))]
      rfl
  | succ d ih =>
    intro f f2 k b w hk hf hf2 hb hw
    obtain ⟨f, rfl⟩ : ∃ g, f = g + 1 := ⟨f - 1, by omega⟩
    obtain ⟨f2, rfl⟩ : ∃ g, f2 = g + 1 := ⟨f2 - 1, by omega⟩
    unfold f_X3_cheapest_L33 f_X4_cheapest_L26
    rw [q_gI0 hL, h3, nI_add, q_gI12 hL2, h32]
    by_cases hkn : nS < k + n
    · refine ⟨b, nI w, nI k, nI w, nI k, hb, ?_, ?_⟩
      · rw [i_t ((nI_ltI (by omega) (by omega)).mpr hkn)]; rfl
      · rw [i_t ((nI_ltI (by omega) (by omega)).mpr hkn)]; rfl
    · have nlt : ¬ nI nS < nI (k + n) := ltL (by omega) (by omega)
      have hs := sum_le20 (p := k) (n := n) (l := l) (nS := nS) (fun k hk => (hp k hk).2.2.2.2.2.2.1) (by omega) hn
      have e1 := living_x h (p := k) (n := n) (by omega)
      have e2 := sum_q g (p := k) (n := n) (by omega) (nI b) (nI w)
      by_cases c3 : w ≤ sumF (fun j => l (k + j)) n
      · obtain ⟨b2, x, y, x2, y2, a1, a2, a3⟩ := ih f f2 (k + 1) b w (by omega) (by omega) (by omega) hb hw
        refine ⟨b2, x, y, x2, y2, a1, ?_, ?_⟩
        · rw [i_f nlt, q_cl0 hL, b_eq e1, i_t (leL c3 (by omega)), nI_1]; exact a2
        · rw [i_f nlt, b_eq e2, i_f (nI_pos (by omega)), i_t (leL c3 (by omega)), nI_1]; exact a3
      · obtain ⟨b2, x, y, x2, y2, a1, a2, a3⟩ := ih f f2 (k + 1) k (sumF (fun j => l (k + j)) n) (by omega) (by omega) (by omega) (by omega) (by omega)
        refine ⟨b2, x, y, x2, y2, a1, ?_, ?_⟩
        · rw [i_f nlt, q_cl0 hL, b_eq e1, i_f (leN (by omega) (by omega)), nI_1]; exact a2
        · rw [i_f nlt, b_eq e2, i_f (nI_pos (by omega)), i_f (leN (by omega) (by omega)), nI_1]; exact a3
theorem worst_xq (h : PX X nS ad t z l m) (g : PQ X nS s t z l m2) : ∀ d f f2 k b, k + d = nS → d < f → d < f2 → b < nS → ∃ (b2 : Nat) (x x2 : Int32), f_X3_worst_L14 f X (nI b) (nI k) m = some ((nI b2, x), m) ∧ f_X4_worst_L10 f2 (X + 12) (nI b) (nI k) m2 = some ((nI b2, x2), m2) := by
  intro d
  obtain ⟨hL, h3, hn, hp⟩ := h
  obtain ⟨hL2, h32, hn2, hp2⟩ := g
  induction d with
  | zero =>
    intro f f2 k b hk hf hf2 hb
    obtain ⟨f, rfl⟩ : ∃ g, f = g + 1 := ⟨f - 1, by omega⟩
    obtain ⟨f2, rfl⟩ : ∃ g, f2 = g + 1 := ⟨f2 - 1, by omega⟩
    refine ⟨b, nI k, nI k, ?_, ?_⟩
    · unfold f_X3_worst_L14
      rw [q_gI0 hL, h3, i_t (leL (by omega) (by omega))]; rfl
    · unfold f_X4_worst_L10
      rw [q_gI12 hL2, h32, i_t (leL (by omega) (by omega))]; rfl
  | succ d ih =>
    intro f f2 k b hk hf hf2 hb
    obtain ⟨f, rfl⟩ : ∃ g, f = g + 1 := ⟨f - 1, by omega⟩
    obtain ⟨f2, rfl⟩ : ∃ g, f2 = g + 1 := ⟨f2 - 1, by omega⟩
    obtain ⟨p1, p2, p3, p4, p5, p6, p7, p8⟩ := hp k (by omega)
    obtain ⟨q1, q2, q3, q4, q5, q6, q7, q8⟩ := hp b hb
    obtain ⟨r1, r2, r3, r4, r5, r6, r7, r8⟩ := hp2 k (by omega)
    obtain ⟨t1, t2, t3, t4, t5, t6, t7, t8⟩ := hp2 b hb
    unfold f_X3_worst_L14 f_X4_worst_L10
    have hd : f_X2_isDeaderThan (ad k) (ad b) m = some (if (nI (z k) - nI (l k)) * nI (z b) ≤ (nI (z b) - nI (l b)) * nI (z k) then 0 else 1, m) := by
      unfold f_X2_isDeaderThan
      rw [b_gI p2, p4, b_gI p2, p5, b_gI q2, q4, b_gI q2, q4, b_gI q2, q5, b_gI p2, p4]
      by_cases c1 : (nI (z k) - nI (l k)) * nI (z b) ≤ (nI (z b) - nI (l b)) * nI (z k)
      · rw [i_t c1, if_pos c1]; rfl
      · rw [i_f c1, if_neg c1]; rfl
    have nle : ¬ nI nS ≤ nI k := leN (by omega) (by omega)
    by_cases c1 : (nI (z k) - nI (l k)) * nI (z b) ≤ (nI (z b) - nI (l b)) * nI (z k)
    · obtain ⟨b2, x, x2, a2, a3⟩ := ih f f2 (k + 1) b (by omega) (by omega) (by omega) hb
      rw [if_pos c1] at hd
      refine ⟨b2, x, x2, ?_, ?_⟩
      · rw [q_gI0 hL, h3, i_f nle, q_gN0_2 hL, q_lR5 hL (by omega) p1, q_gN0_2 hL, q_lR5 hL (by omega) q1, b_cle p2 hd, i_t (by rfl), nI_1]; exact a2
      · rw [q_gI12 hL2, h32, i_f nle, q_gN12_8 hL2, q_lI18 hL2 (by omega), r1, i_t (nI_pos' (by omega)), q_gN12_8 hL2, q_lI18 hL2 (by omega), t1, q_gN12_12 hL2, q_lI22 hL2 r2, r4, q_cl12 hL2, b_eq r5, q_gN12_12 hL2, q_lI22 hL2 t2, t4, q_cl12 hL2, b_eq t5, i_f (nI_pos (by omega)), q_gN12_12 hL2, q_lI22 hL2 t2, t4, q_gN12_12 hL2, q_lI22 hL2 r2, r4, i_t c1, nI_1]; exact a3
    · obtain ⟨b2, x, x2, a2, a3⟩ := ih f f2 (k + 1) k (by omega) (by omega) (by omega) (by omega)
      rw [if_neg c1] at hd
      refine ⟨b2, x, x2, ?_, ?_⟩
      · rw [q_gI0 hL, h3, i_f nle, q_gN0_2 hL, q_lR5 hL (by omega) p1, q_gN0_2 hL, q_lR5 hL (by omega) q1, b_cle p2 hd, i_f n10, nI_1]; exact a2
      · rw [q_gI12 hL2, h32, i_f nle, q_gN12_8 hL2, q_lI18 hL2 (by omega), r1, i_t (nI_pos' (by omega)), q_gN12_8 hL2, q_lI18 hL2 (by omega), t1, q_gN12_12 hL2, q_lI22 hL2 r2, r4, q_cl12 hL2, b_eq r5, q_gN12_12 hL2, q_lI22 hL2 t2, t4, q_cl12 hL2, b_eq t5, i_f (nI_pos (by omega)), q_gN12_12 hL2, q_lI22 hL2 t2, t4, q_gN12_12 hL2, q_lI22 hL2 r2, r4, i_f c1, nI_1]; exact a3
end CH
section OPS5
variable {X c : Nat} {m : Mem}
theorem op_cheapest (h : Inv X c m) (hc : c ≤ 4096) (a : Int32) : ∃ r m1 m2, cl 3 X (f_X3_cheapest X a) m = some (r, m1) ∧ cl 4 (X + 12) (f_X4_cheapest (X + 12) a) m1 = some (r, m2) ∧ Inv X (c + 1) m2 := by
  refine op_q h ?_
  obtain ⟨nS, ad, s, t, z, l, hx, hpq⟩ := inv_PPa h hc
  have hq := hpq (setI m (X + 12) 0 0) h.1 (fun b j h1 h2 => by rw [mI_setI, if_neg h2])
  have hL := hx.1
  have hL2 := hq.1
  have hn := hx.2.2.1
  unfold f_X3_cheapest f_X4_cheapest
  rw [q_pI12 hL]
  rcases canBe_spec a m with ⟨n, h2, h7, rfl, e⟩ | ⟨hk, e⟩
  · rcases in_spec (nI n) (lo := 2) (hi := 6) 2 7 rfl rfl (by decide) (setI m (X + 12) 0 0) with ⟨k2, -, hk2, ek, e2⟩ | ⟨hk2, e2⟩
    · by_cases hle : n ≤ nS
      · have e3 := living_x hx (p := 0) (n := n) (by omega)
        have e4 := sum_q hq (p := 0) (n := n) (by omega) (-3) 0
        have hs := sum_le20 (p := 0) (n := n) (l := l) (nS := nS) (fun k hk => (hx.2.2.2 k hk).2.2.2.2.2.2.1) (by omega) hn
        obtain ⟨b2, x, y, x2, y2, a1, a2, a3⟩ := cheap_xq hx hq h2 (by omega) 20 2100 2099 1 0 (sumF (fun j => l (0 + j)) n) (by omega) (by omega) (by omega) (by omega) (by omega)
        refine ⟨nI b2, ?_, ?_⟩
        · rw [b_eq e, i_f n10, q_gI0 hL, hx.2.1, i_t (leL hle (by omega)), q_cl0 hL, b_eq (show f_X3_livingFrom X 0 (nI n) m = _ from e3), b_eq (show f_X3_cheapest_L33 2100 X (nI n) 0 _ 1 m = _ from a2)]; rfl
        · have step : f_X4_cheapest_L26 2100 (X + 12) (nI n) (-3) 0 0 (setI m (X + 12) 0 0) = some ((nI b2, x2, y2), setI m (X + 12) 0 0) := by
            unfold f_X4_cheapest_L26
            rw [q_gI12 hL2, hq.2.1, i_f (show ¬ nI nS < 0 + nI n from by
              rw [show (0 : Int32) + nI n = nI (0 + n) from nI_add 0 n]
              exact ltL (by omega) (by omega)), b_eq (show f_X4_cheapest_L43 2100 (X + 12) (nI n) (-3) 0 0 0 0 _ = _ from e4), i_t (by decide)]
            exact a3
          rw [b_eq e2, i_f n10, b_eq step]; rfl
      · refine ⟨-3, ?_, ?_⟩
        · rw [b_eq e, i_f n10, q_gI0 hL, hx.2.1, i_f (leN (by omega) (by omega))]; rfl
        · have step : f_X4_cheapest_L26 2100 (X + 12) (nI n) (-3) 0 0 (setI m (X + 12) 0 0) = some ((-3, 0, 0), setI m (X + 12) 0 0) := by
            unfold f_X4_cheapest_L26
            rw [q_gI12 hL2, hq.2.1, i_t (show nI nS < 0 + nI n from by
              rw [show (0 : Int32) + nI n = nI (0 + n) from nI_add 0 n]
              exact (nI_ltI (by omega) (by omega)).mpr (by omega))]
            rfl
          rw [b_eq e2, i_f n10, b_eq step]; rfl
    · exact absurd rfl (hk2 n h2 h7)
  · rcases in_spec a (lo := 2) (hi := 6) 2 7 rfl rfl (by decide) (setI m (X + 12) 0 0) with ⟨k2, hk1, hk2, ek, e2⟩ | ⟨hk2, e2⟩
    · exact absurd ek (hk k2 hk1 hk2)
    · exact ⟨-2, by rw [b_eq e, i_t (by rfl)]; rfl, by rw [b_eq e2, i_t (by rfl)]; rfl⟩
theorem op_worst (h : Inv X c m) (hc : c ≤ 4096) : ∃ r m1 m2, cl 3 X (f_X3_worst X) m = some (r, m1) ∧ cl 4 (X + 12) (f_X4_worst (X + 12)) m1 = some (r, m2) ∧ Inv X (c + 1) m2 := by
  refine op_q h ?_
  obtain ⟨nS, ad, s, t, z, l, hx, hpq⟩ := inv_PPa h hc
  have hq := hpq (setI m (X + 12) 0 0) h.1 (fun b j h1 h2 => by rw [mI_setI, if_neg h2])
  have hL := hx.1
  have hL2 := hq.1
  have hn := hx.2.2.1
  unfold f_X3_worst f_X4_worst
  rw [q_pI12 hL]
  by_cases h0 : nS = 0
  · refine ⟨-3, ?_, ?_⟩
    · rw [q_gI0 hL, hx.2.1, h0, i_t (by rfl)]; rfl
    · have step : f_X4_worst_L10 2100 (X + 12) (-3) 0 (setI m (X + 12) 0 0) = some ((-3, 0), setI m (X + 12) 0 0) := by
        unfold f_X4_worst_L10
        rw [q_gI12 hL2, hq.2.1, h0, i_t (by decide)]
        rfl
      rw [b_eq step]; rfl
  · obtain ⟨b2, x, x2, a2, a3⟩ := worst_xq hx hq (nS - 1) 2100 2099 1 0 (by omega) (by omega) (by omega) (by omega)
    refine ⟨nI b2, ?_, ?_⟩
    · rw [q_gI0 hL, hx.2.1, i_f (nI_ne0 (by omega) (by omega)), b_eq (show f_X3_worst_L14 2100 X 0 1 m = _ from a2)]; rfl
    · obtain ⟨r1, r2, r3, r4, r5, -⟩ := hq.2.2.2 0 (by omega)
      have step : f_X4_worst_L10 2100 (X + 12) (-3) (nI 0) (setI m (X + 12) 0 0) = some ((nI b2, x2), setI m (X + 12) 0 0) := by
        unfold f_X4_worst_L10
        rw [q_gI12 hL2, hq.2.1, i_f (show ¬ nI nS ≤ nI 0 from leN (by omega) (by omega)), q_gN12_8 hL2, q_lI18 hL2 (by omega), r1, i_f (by decide), q_gN12_12 hL2, q_lI22 hL2 r2, r4, q_cl12 hL2, b_eq r5, q_gN12_12 hL2, q_lI22 hL2 r2, r4, q_cl12 hL2, b_eq r5, i_t (by decide)]
        exact a3
      rw [b_eq (show f_X4_worst_L10 2100 (X + 12) (-3) 0 _ = _ from step)]; rfl
end OPS5

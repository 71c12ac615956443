/-! begin -/
section BEG
variable {X c : Nat} {m : Mem}
theorem i9n {α : Type} {x : HM α} {y : Nat → HM α} : ifn none x y m = x m := rfl
theorem i9s {α : Type} {x : HM α} {y : Nat → HM α} {a : Nat} : ifn (some a) x y m = y a m := rfl
theorem al_zero {m m' : Mem} {s a k t n : Nat} (hs : mS m = s) (e : m' = setR (allo m t n) a k (some s)) (j : Nat) : mI m' s j = 0 := by
  subst hs
  subst e
  rw [mI_setR, mI_allo, if_pos rfl]
theorem mrg_L {a gp n : Nat} {S z : Nat → Nat} (ha : X + 37 ≤ a) (hn : n ≤ 6) (hg : gp + n ≤ 20) (hz : ∀ j, j < n → z j ≤ 100) : ∀ d f k (m : Mem), k + d = n → d < f → SL X m → (mK m a = 1 ∧ mR m a 1 = some (a + 1) ∧ mK m (a + 1) = 7 ∧ mN m (a + 1) = n) → (∀ j, j < n → mR m (X + 5) (gp + j) = some (S j) ∧ mK m (S j) = 2 ∧ mI m (S j) 2 = nI (z j)) → mI m a 5 = nI (sumF z k) →
    ∃ m2, f_X1_init_L42 f a (X + 5) (nI gp) (nI n) (nI k) m = some (nI n, m2) ∧ (mK m2 = mK m ∧ mN m2 = mN m ∧ mS m2 = mS m) ∧ (∀ b j, ¬ (b = a ∧ j = 5) → mI m2 b j = mI m b j) ∧ (∀ b j, b ≠ a + 1 ∨ j < k → mR m2 b j = mR m b j) ∧ mI m2 a 5 = nI (sumF z n) ∧ ∀ j, k ≤ j → j < n → mR m2 (a + 1) j = some (S j) := by
  intro d
  induction d with
  | zero =>
    intro f k m hk hf hL hK hS h5
    obtain ⟨f, rfl⟩ : ∃ g, f = g + 1 := ⟨f - 1, by omega⟩
    have : k = n := by omega
    subst this
    refine ⟨m, ?_, ⟨rfl, rfl, rfl⟩, fun _ _ _ => rfl, fun _ _ _ => rfl, h5, fun j h1 h2 => absurd h2 (by omega)⟩
    unfold f_X1_init_L42
    rw [i_t (leL (Nat.le_refl _) (by omega))]; rfl
  | succ d ih =>
    intro f k m hk hf hL hK hS h5
    obtain ⟨f, rfl⟩ : ∃ g, f = g + 1 := ⟨f - 1, by omega⟩
    have hk2 : k < n := by omega
    obtain ⟨k0, k1, k2, k3⟩ := hK
    obtain ⟨e1, e2, e3⟩ := hS k hk2
    obtain ⟨ma, hma⟩ : ∃ ma, ma = setR m (a + 1) k (some (S k)) := ⟨_, rfl⟩
    have hLa : SL X ma := by rw [hma]; exact SL_setR hL (by omega)
    have ka : mK ma = mK m ∧ mN ma = mN m ∧ mI ma = mI m := by rw [hma]; exact ⟨rfl, rfl, rfl⟩
    have ra1 : mR ma a 1 = some (a + 1) := by rw [hma, mR_setR, if_neg (by omega)]; exact k1
    have rak : mR ma (a + 1) k = some (S k) := by rw [hma, mR_setR, if_pos ⟨rfl, rfl⟩]
    have k0a : mK ma a = 1 := by rw [ka.1]; exact k0
    have k2a : mK ma (a + 1) = 7 := by rw [ka.1]; exact k2
    have k3a : mN ma (a + 1) = n := by rw [ka.2.1]; exact k3
    have e2a : mK ma (S k) = 2 := by rw [ka.1]; exact e2
    obtain ⟨mb, hmb⟩ : ∃ mb, mb = setI ma a 5 (nI (sumF z (k + 1))) := ⟨_, rfl⟩
    have hLb : SL X mb := by rw [hmb]; exact hLa
    have kb : mK mb = mK m ∧ mN mb = mN m ∧ mR mb = mR ma ∧ mS mb = mS m := by rw [hmb]; exact ⟨ka.1, ka.2.1, rfl, by rw [hma]; rfl⟩
    have ib : ∀ b j, ¬ (b = a ∧ j = 5) → mI mb b j = mI m b j := fun b j q => by rw [hmb, mI_setI, if_neg q, ka.2.2]
    obtain ⟨m2, g1, ⟨g2, g3, g4⟩, g5, g6, g7, g8⟩ := ih f (k + 1) mb (by omega) (by omega) hLb ⟨by rw [kb.1]; exact k0, by rw [kb.2.2.1]; exact ra1, by rw [kb.1]; exact k2, by rw [kb.2.1]; exact k3⟩ (fun j hj => by
      obtain ⟨x1, x2, x3⟩ := hS j hj
      refine ⟨?_, by rw [kb.1]; exact x2, by rw [ib _ _ (by omega)]; exact x3⟩
      rw [kb.2.2.1, hma, mR_setR, if_neg (by omega)]; exact x1) (by rw [hmb, mI_setI, if_pos ⟨rfl, rfl⟩])
    refine ⟨m2, ?_, ⟨g2.trans kb.1, g3.trans kb.2.1, g4.trans kb.2.2.2⟩, fun b j q => by rw [g5 b j q, ib b j q], fun b j q => ?_, g7, fun j h1 h2 => ?_⟩
    · unfold f_X1_init_L42
      rw [i_f (leN hk2 (by omega)), b_gN k0 k1, nI_add, b_lR (sk5 hL) (sn5 hL) (by omega) (by decide) e1, b_sR k2 k3 hk2 (by omega) e2, ← hma, b_gI k0a, ka.2.2, h5, b_gN k0a ra1, b_lR k2a k3a hk2 (by omega) rak, b_gI e2a, ka.2.2, e3, nI_add, b_pI k0a]
      show f_X1_init_L42 f a (X + 5) (nI gp) (nI n) (nI k + 1) (setI ma a 5 (nI (sumF z (k + 1)))) = _
      rw [← hmb, nI_1]
      exact g1
    · rw [g6 b j (by omega), kb.2.2.1, hma, mR_setR, if_neg (by omega)]
    · by_cases e : j = k
      · subst e
        rw [g6 _ _ (Or.inr (by omega)), kb.2.2.1]; exact rak
      · exact g8 j (by omega) h2
theorem mrg_init {a gp n : Nat} {S z : Nat → Nat} (hn : n ≤ 6) (hg : gp + n ≤ 20) (hz : ∀ j, j < n → z j ≤ 100) (hL : SL X m) (h1 : mK m a = 1) (hs : mS m = a + 1) (ha : X + 37 ≤ a) (hS : ∀ j, j < n → mR m (X + 5) (gp + j) = some (S j) ∧ mK m (S j) = 2 ∧ mI m (S j) 2 = nI (z j) ∧ S j < a) :
    ∃ m2, f_X1_init a (X + 5) (nI gp) (nI n) m = some ((), m2) ∧ mS m2 = a + 3 ∧ Mg m2 a gp n 0 0 (sumF z n) S (fun _ => 0) ∧ ∀ b, b < a → eqA m m2 b := by
  obtain ⟨m1, hm1⟩ : ∃ m1, m1 = setI (setI (setI (setI m a 3 0) a 4 0) a 5 0) a 0 (nI gp) := ⟨_, rfl⟩
  have hs1 : mS m1 = a + 1 := by rw [hm1]; exact hs
  have h11 : mK m1 a = 1 := by rw [hm1]; exact h1
  obtain ⟨ma, hma⟩ : ∃ ma, ma = setR (allo m1 7 n) a 1 (some (a + 1)) := ⟨_, rfl⟩
  obtain ⟨a1, ⟨a2, a3⟩, a4, a5, a6⟩ := al_step hs1 hma
  obtain ⟨mb, hmb⟩ : ∃ mb, mb = setR (allo ma 5 n) a 2 (some (a + 2)) := ⟨_, rfl⟩
  obtain ⟨b1, ⟨b2, b3⟩, b4, b5, b6⟩ := al_step a1 hmb
  have b7 := al_zero a1 hmb
  have qe : ∀ b, b < a → eqA m mb b := fun b hb => by
    refine ⟨?_, ?_, ?_, funext fun j => ?_⟩
    · rw [(b5 _ (by omega)).1, (a5 _ (by omega)).1, hm1]; rfl
    · rw [(b5 _ (by omega)).2.1, (a5 _ (by omega)).2.1, hm1]; rfl
    · rw [(b5 _ (by omega)).2.2, (a5 _ (by omega)).2.2, hm1]
      funext j
      rw [mI_setI, if_neg (by omega), mI_setI, if_neg (by omega), mI_setI, if_neg (by omega), mI_setI, if_neg (by omega)]
    · rw [b6 b _ (by omega) (by omega), a6 b _ (by omega) (by omega), hm1]; rfl
  have hLb : SL X mb := SL_eq hL (by omega) (fun j hj => ⟨(qe (X + j) (by omega)).1, (qe (X + j) (by omega)).2.1⟩) (fun j k b hj _ _ z => by rw [(qe (X + j) (by omega)).2.2.2]; exact z)
  have hI : mI mb a = mI m1 a := by rw [(b5 _ (by omega)).2.2, (a5 _ (by omega)).2.2]
  have i3 : mI mb a 3 = 0 := by rw [hI, hm1, mI_setI, if_neg (by omega), mI_setI, if_neg (by omega), mI_setI, if_neg (by omega), mI_setI, if_pos ⟨rfl, rfl⟩]
  have i4 : mI mb a 4 = 0 := by rw [hI, hm1, mI_setI, if_neg (by omega), mI_setI, if_neg (by omega), mI_setI, if_pos ⟨rfl, rfl⟩]
  have i5 : mI mb a 5 = 0 := by rw [hI, hm1, mI_setI, if_neg (by omega), mI_setI, if_pos ⟨rfl, rfl⟩]
  have ip : mI mb a 0 = nI gp := by rw [hI, hm1, mI_setI, if_pos ⟨rfl, rfl⟩]
  have kb : mK mb a = 1 := by rw [(b5 _ (by omega)).1, (a5 _ (by omega)).1]; exact h11
  have rb1 : mR mb a 1 = some (a + 1) := by rw [b6 a _ (by omega) (by omega)]; exact a4
  have kb1 : mK mb (a + 1) = 7 := by rw [(b5 _ (by omega)).1]; exact a2
  have nb1 : mN mb (a + 1) = n := by rw [(b5 _ (by omega)).2.1]; exact a3
  obtain ⟨m2, g1, ⟨g2, g3, g4⟩, g5, g6, g7, g8⟩ := mrg_L (S := S) (z := z) ha hn hg hz n 2100 0 mb (by omega) (by omega) hLb ⟨kb, rb1, kb1, nb1⟩ (fun j hj => by
    obtain ⟨x1, x2, x3, x4⟩ := hS j hj
    rw [(qe (X + 5) (by omega)).2.2.2, (qe (S j) x4).1, (qe (S j) x4).2.2.1]
    exact ⟨x1, x2, x3⟩) i5
  refine ⟨m2, ?_, by rw [g4]; exact b1, ⟨⟨by rw [g2]; exact kb, by rw [g6 _ _ (by omega)]; exact rb1, by rw [g6 _ _ (by omega)]; exact b4, by rw [g2]; exact kb1, by rw [g2]; exact b2, by rw [g3]; exact nb1, by rw [g3]; exact b3⟩, ⟨by rw [g5 _ _ (by omega)]; exact ip, by rw [g5 _ _ (by omega)]; exact i3, by rw [g5 _ _ (by omega)]; exact i4, g7⟩, fun k hk => ⟨g8 k (by omega) hk, by rw [g5 _ _ (by omega)]; exact b7 k⟩⟩, fun b hb => ?_⟩
  · unfold f_X1_init
    have e1 : mK (setI m a 3 0) a = 1 := h1
    have e2 : mK (setI (setI m a 3 0) a 4 0) a = 1 := h1
    have e3 : mK (setI (setI (setI m a 3 0) a 4 0) a 5 0) a = 1 := h1
    have f1 : mK (allo m1 7 n) a = 1 := by rw [mK_allo, hs1, if_neg (by omega)]; exact h11
    have f2 : mK (allo ma 5 n) a = 1 := by rw [mK_allo, a1, if_neg (by omega), (a5 a (by omega)).1]; exact h11
    rw [b_pI h1, b_pI e1, b_pI e2, b_pI e3, ← hm1, b_nA hn (by decide), hs1, b_pR f1, ← hma, b_nA hn (by decide), a1, b_pR f2, ← hmb, b_eq (show f_X1_init_L42 2100 a (X + 5) (nI gp) (nI n) 0 mb = _ from g1)]; rfl
  · obtain ⟨q1, q2, q3, q4⟩ := qe b hb
    exact ⟨by rw [g2]; exact q1, by rw [g3]; exact q2, by rw [← q3]; funext j; exact g5 b j (by omega), by rw [← q4]; funext j; exact g6 b j (by omega)⟩
theorem begin_q {n : Nat} (hn : n ≤ 6) (x : Int32) : ∀ d f k (m : Mem), k + d = n → d < f → SL X m → ∃ m2, f_X4_begin_L72 f (X + 12) x (nI n) (nI k) m = some (nI n, m2) ∧ Ag (fun b _ => b = X + 26) m m2 ∧ ∀ j, (k ≤ j → j < n → mI m2 (X + 26) j = 0) ∧ (j < k → mI m2 (X + 26) j = mI m (X + 26) j) := by
  intro d
  induction d with
  | zero =>
    intro f k m hk hf hL
    obtain ⟨f, rfl⟩ : ∃ g, f = g + 1 := ⟨f - 1, by omega⟩
    have : k = n := by omega
    subst this
    refine ⟨m, ?_, Ag.refl, fun j => ⟨fun h1 h2 => absurd h2 (by omega), fun _ => rfl⟩⟩
    unfold f_X4_begin_L72
    rw [i_t (leL (Nat.le_refl _) (by omega))]; rfl
  | succ d ih =>
    intro f k m hk hf hL
    obtain ⟨f, rfl⟩ : ∃ g, f = g + 1 := ⟨f - 1, by omega⟩
    have hL1 : SL X (setI m (X + 26) k 0) := hL
    obtain ⟨m2, e1, e2, e3⟩ := ih f (k + 1) _ (by omega) (by omega) hL1
    refine ⟨m2, ?_, (Ag.setI.trans e2).mono (fun b j q => by omega), fun j => ⟨fun h1 h2 => ?_, fun h1 => ?_⟩⟩
    · unfold f_X4_begin_L72
      rw [i_f (leN (by omega) (by omega)), q_gN12_23 hL, q_sI26 hL (by omega), nI_1]
      exact e1
    · by_cases e : j = k
      · subst e
        rw [(e3 j).2 (by omega), mI_setI, if_pos ⟨rfl, rfl⟩]
      · exact (e3 j).1 (by omega) h2
    · rw [(e3 j).2 (by omega), mI_setI, if_neg (by omega)]
theorem op_begin (h : Inv X c m) (a b : Int32) : ∃ r m1 m2, cl 3 X (f_X3_begin X a b) m = some (r, m1) ∧ cl 4 (X + 12) (f_X4_begin (X + 12) a b) m1 = some (r, m2) ∧ Inv X (c + 1) m2 := by
  have hI := h
  have hL := h.1
  obtain ⟨-, hw, nS, nn, us, od, sa, sz, num, ti, rk, rv, lv, v, nM, mk, loc, tt, gn, ca, hIS, hIL, ⟨gp, gt, gw, gl, ga, gg, wk, wi, nk, nv, nt, hRG, hWG⟩, ⟨dn, da, ea, dm, er, dg, hRD, hWD⟩⟩ := h
  obtain ⟨s1, s2, s3, s4, s5, F, rn, wn⟩ := id hIS
  have h20 := s3.1
  have hX := hL.1
  have hL0 : SL X (setI m (X + 12) 0 0) := hL
  have g07 : mI (setI m (X + 12) 0 0) (X + 12) 7 = nI nS := by rw [mI_setI, if_neg (by omega)]; exact s1.1.2
  have g19 : mI (setI m (X + 12) 0 0) (X + 12) 19 = nI gn := by rw [mI_setI, if_neg (by omega)]; exact hRG.1
  rcases placeX hL s1.1.1 h20 a with ⟨p, hp, rfl, ex⟩ | ⟨hp, ex⟩
  rotate_left
  · refine op_q hI ⟨-1, ?_, ?_⟩
    · unfold f_X3_begin
      rw [q_cl0 hL, b_eq ex, i_t (by rfl)]; rfl
    · rcases placeQ hL0 g07 h20 a with ⟨p, hp2, e, -⟩ | ⟨-, eq⟩
      · exact absurd e (hp p hp2)
      · unfold f_X4_begin
        rw [q_pI12 hL, q_cl12 hL0, b_eq eq, i_t (by rfl)]; rfl
  have eq : ∀ mq, SL X mq → mI mq (X + 12) 7 = nI nS → f_X4_isPlace (X + 12) (nI p) mq = some (1, mq) := fun mq hq h7 => by
    rcases placeQ hq h7 h20 (nI p) with ⟨_, _, _, e⟩ | ⟨e, -⟩
    · exact e
    · exact absurd rfl (e p hp)
  rcases canBe_spec b m with ⟨n, hn2, hn7, rfl, en⟩ | ⟨hn, en⟩
  rotate_left
  · refine op_q hI ⟨-2, ?_, ?_⟩
    · unfold f_X3_begin
      rw [q_cl0 hL, b_eq ex, i_f n10, b_eq en, i_t (by rfl)]; rfl
    · rcases in_spec b (lo := 2) (hi := 6) 2 7 rfl rfl (by decide) (setI m (X + 12) 0 0) with ⟨u, u1, u2, u3, -⟩ | ⟨-, e⟩
      · exact absurd u3 (hn u u1 u2)
      · unfold f_X4_begin
        rw [q_pI12 hL, q_cl12 hL0, b_eq (eq _ hL0 g07), i_f n10, b_eq e, i_t (by rfl)]; rfl
  have ein : ∀ mq, f_X4_in (nI n) 2 6 mq = some (1, mq) := fun mq => by
    rcases in_spec (nI n) (lo := 2) (hi := 6) 2 7 rfl rfl (by decide) mq with ⟨u, u1, u2, u3, e⟩ | ⟨e, -⟩
    · exact e
    · exact absurd rfl (e n hn2 hn7)
  have hpn : nI p + nI n - 1 = nI (p + n - 1) := by
    rw [nI_add, show p + n = (p + n - 1) + 1 by omega, nI_pred]; rfl
  by_cases hpS : p + n ≤ nS
  rotate_left
  · refine op_q hI ⟨-1, ?_, ?_⟩
    · rcases placeX hL s1.1.1 h20 (nI (p + n - 1)) with ⟨q, hq, e, -⟩ | ⟨-, e⟩
      · have := (nI_eq (by omega) (by omega)).mp e
        omega
      · unfold f_X3_begin
        rw [q_cl0 hL, b_eq ex, i_f n10, b_eq en, i_f n10, hpn, q_cl0 hL, b_eq e, i_t (by rfl)]; rfl
    · unfold f_X4_begin
      rw [q_pI12 hL, q_cl12 hL0, b_eq (eq _ hL0 g07), i_f n10, b_eq (ein _), i_f n10, q_gI12 hL0, g07, nI_add, i_f (leN (by omega) (by omega))]; rfl
  have ex2 : f_X3_isPlace X (nI (p + n - 1)) m = some (1, m) := by
    rcases placeX hL s1.1.1 h20 (nI (p + n - 1)) with ⟨_, _, _, e⟩ | ⟨e, -⟩
    · exact e
    · exact absurd rfl (e (p + n - 1) (by omega))
  by_cases hg : gn = 0
  rotate_left
  · refine op_q hI ⟨-3, ?_, ?_⟩
    · unfold f_X3_begin
      rw [q_cl0 hL, b_eq ex, i_f n10, b_eq en, i_f n10, hpn, q_cl0 hL, b_eq ex2, i_f n10, q_gR0 hL, (hRG.2.2 (by omega)).1]; rfl
    · have hg6 : gn ≤ 6 := by
        rcases hWG.2 with g | ⟨g, -⟩ <;> omega
      unfold f_X4_begin
      rw [q_pI12 hL, q_cl12 hL0, b_eq (eq _ hL0 g07), i_f n10, b_eq (ein _), i_f n10, q_gI12 hL0, g07, nI_add, i_t (leL hpS (by omega)), q_gI12 hL0, g19, i_f (nI_nle (by omega) (by omega))]; rfl
  subst hg
  have hu : ∀ k, k < n → us (od (p + k)) = true := fun k hk => (s3.2.1 (p + k) (by omega)).2
  obtain ⟨ao, hae⟩ : ∃ ao, ao = mS m := ⟨_, rfl⟩
  have hL1 : SL X (allo m 1 0) := SL_allo hL
  rw [← hae] at hX
  have ia : ∀ b, b < ao → eqA m (allo m 1 0) b := fun b hb => ⟨by rw [mK_allo, if_neg (by omega)], by rw [mN_allo, if_neg (by omega)], funext fun j => by rw [mI_allo, if_neg (by omega)], funext fun j => by rw [mR_allo, if_neg (by omega)]⟩
  obtain ⟨mb, b1, b2, b3, b4⟩ := mrg_init (X := X) (m := allo m 1 0) (a := ao) (gp := p) (n := n) (S := fun k => sa (od (p + k))) (z := fun k => sz (od (p + k))) (by omega) (by omega) (fun k hk => (s4 _ (hu k hk)).1) hL1 (by rw [hae, mK_allo, if_pos rfl]) (by rw [hae]; rfl) hX (fun k hk => by
    have w := s5.1 _ (hu k hk)
    rw [(ia (X + 5) (by omega)).2.2.2, (ia (sa (od (p + k))) (by omega)).1, (ia (sa (od (p + k))) (by omega)).2.2.1]
    exact ⟨(s1.2.1 (p + k) (by omega)).1, (s2 _ (hu k hk)).1.1.1, (s2 _ (hu k hk)).1.2.2.2.1.2.2, by omega⟩)
  have qe : ∀ b, b < ao → eqA m mb b := fun b hb => by
    obtain ⟨x1, x2, x3, x4⟩ := b4 b hb
    obtain ⟨y1, y2, y3, y4⟩ := ia b hb
    exact ⟨x1.trans y1, x2.trans y2, x3.trans y3, x4.trans y4⟩
  have hLb : SL X mb := SL_eq hL (by omega) (fun j hj => ⟨(qe (X + j) (by omega)).1, (qe (X + j) (by omega)).2.1⟩) (fun j k b hj _ _ z => by rw [(qe (X + j) (by omega)).2.2.2]; exact z)
  obtain ⟨m1, hm1⟩ : ∃ m1, m1 = setR mb X 7 (some ao) := ⟨_, rfl⟩
  have hLm1 : SL X m1 := by rw [hm1]; exact SL_setR hLb (by omega)
  have i1 : ∀ b j, b < X + 37 → mI m1 b j = mI m b j := fun b j hb => by rw [hm1, mI_setR, (qe b (by omega)).2.2.1]
  obtain ⟨mq, hmq⟩ : ∃ mq, mq = setI (setI (setI (setI (setI m1 (X + 12) 0 0) (X + 12) 19 (nI n)) (X + 12) 20 (nI p)) (X + 12) 21 0) (X + 12) 22 0 := ⟨_, rfl⟩
  have hLq : SL X mq := by rw [hmq]; exact hLm1
  have hAq : Ag (fun b j => b = X + 12 ∧ (j = 0 ∨ j = 19 ∨ j = 20 ∨ j = 21 ∨ j = 22)) m1 mq := by
    rw [hmq]
    refine ((((Ag.setI.trans Ag.setI).trans Ag.setI).trans Ag.setI).trans Ag.setI).mono (fun b j q => ?_)
    rcases q with (((⟨rfl, rfl⟩ | ⟨rfl, rfl⟩) | ⟨rfl, rfl⟩) | ⟨rfl, rfl⟩) | ⟨rfl, rfl⟩ <;> simp
  obtain ⟨m2, e1, e2, e3⟩ := begin_q (X := X) (n := n) (by omega) (nI p) n 2100 0 mq (by omega) (by omega) hLq
  have hL2 : SL X m2 := e2.SL hLq
  have hAA : Ag (fun b j => (b = X + 12 ∧ (j = 0 ∨ j = 19 ∨ j = 20 ∨ j = 21 ∨ j = 22)) ∨ b = X + 26) m1 m2 := hAq.trans e2
  have hz2 : mS m2 = ao + 3 := by rw [hAA.2.2.2.1, hm1]; exact b2
  have hdy : ∀ b, X + 37 ≤ b → eqA mb m2 b := fun b hb => by
    refine ⟨by rw [hAA.1, hm1]; rfl, by rw [hAA.2.1, hm1]; rfl, funext fun j => ?_, ?_⟩
    · rw [hAA.2.2.2.2 b j (by omega), hm1]; rfl
    · rw [hAA.2.2.1, hm1]
      funext j
      rw [mR_setR, if_neg (by omega)]
  have hAd : Agd X (fun b j => (b = X + 12 ∧ (j = 0 ∨ j = 19 ∨ j = 20 ∨ j = 21 ∨ j = 22)) ∨ b = X + 26) (fun b j => b = X ∧ j = 7) m m2 := by
    refine ⟨fun b h1 h2 => ?_, by omega, fun b j h1 h2 => ?_, fun b j h1 h2 => ?_, fun b h1 => ⟨?_, ?_⟩⟩
    · obtain ⟨x1, x2, x3, x4⟩ := hdy b h1
      obtain ⟨y1, y2, y3, y4⟩ := qe b (by omega)
      exact ⟨x1.trans y1, x2.trans y2, x3.trans y3, x4.trans y4⟩
    · rw [hAA.2.2.2.2 _ _ h2, i1 b j h1]
    · rw [hAA.2.2.1, hm1, mR_setR, if_neg h2, (qe b (by omega)).2.2.2]
    · rw [hAA.1, hm1, mK_setR, (qe b (by omega)).1]
    · rw [hAA.2.1, hm1, mN_setR, (qe b (by omega)).2.1]
  have t19 : mI m2 (X + 12) 19 = nI n := by rw [e2.2.2.2.2 _ _ (by omega), hmq, mI_setI, if_neg (by omega), mI_setI, if_neg (by omega), mI_setI, if_neg (by omega), mI_setI, if_pos ⟨rfl, rfl⟩]
  have t20 : mI m2 (X + 12) 20 = nI p := by rw [e2.2.2.2.2 _ _ (by omega), hmq, mI_setI, if_neg (by omega), mI_setI, if_neg (by omega), mI_setI, if_pos ⟨rfl, rfl⟩]
  have t21 : mI m2 (X + 12) 21 = 0 := by rw [e2.2.2.2.2 _ _ (by omega), hmq, mI_setI, if_neg (by omega), mI_setI, if_pos ⟨rfl, rfl⟩]
  have t22 : mI m2 (X + 12) 22 = 0 := by rw [e2.2.2.2.2 _ _ (by omega), hmq, mI_setI, if_pos ⟨rfl, rfl⟩]
  have hMg : Mg m2 ao p n 0 0 (sumF (fun k => sz (od (p + k))) n) (fun k => sa (od (p + k))) (fun _ => 0) := Mg_e b3 (fun j _ => hdy (ao + j) (by omega))
  have elft := left_eq hL2 (gn := n) (gp := p) (od := od) (sz := sz) (ga := fun _ => 0) t19 t20 (by omega) (by omega) (fun k hk => by
    refine ⟨?_, (s3.2.1 (p + k) (by omega)).1, ?_, (e3 k).1 (by omega) hk, Nat.zero_le _⟩
    · rw [hAd.2.2.1 _ _ (by omega) (by omega)]; exact (s1.2.1 (p + k) (by omega)).2
    · rw [hAd.2.2.1 _ _ (by omega) (by omega)]; exact (s2 _ (hu k hk)).2.1.2.2)
  refine ⟨nI (sumF (fun k => sz (od (p + k))) n), m1, m2, ?_, ?_, ?_⟩
  · rw [q_ce0 hL]
    unfold f_X3_begin
    rw [q_cl0 hL, b_eq ex, i_f n10, b_eq en, i_f n10, hpn, q_cl0 hL, b_eq ex2, i_f n10, q_gR0 hL, hRG.2.1 rfl, i9n, b_nO, ← hae, q_gN0_2 hL1, b_eq b1, q_pR0 hLb, ← hm1, q_gR0 hLm1]
    have r7 : mR m1 X 7 = some ao := by rw [hm1, mR_setR, if_pos ⟨rfl, rfl⟩]
    rw [r7]
    show bnd _ _ m1 = _
    have k1 : mK m1 ao = 1 := by rw [hm1]; exact b3.1.1
    rw [b_gI k1, hm1, mI_setR, b3.2.1.2.2.2]; rfl
  · rw [q_ce12 hLm1]
    have hLa : SL X (setI m1 (X + 12) 0 0) := hLm1
    have hLb2 : SL X (setI (setI m1 (X + 12) 0 0) (X + 12) 19 (nI n)) := hLm1
    have hLc : SL X (setI (setI (setI m1 (X + 12) 0 0) (X + 12) 19 (nI n)) (X + 12) 20 (nI p)) := hLm1
    have hLd : SL X (setI (setI (setI (setI m1 (X + 12) 0 0) (X + 12) 19 (nI n)) (X + 12) 20 (nI p)) (X + 12) 21 0) := hLm1
    have h7a : mI (setI m1 (X + 12) 0 0) (X + 12) 7 = nI nS := by rw [mI_setI, if_neg (by omega), i1 _ _ (by omega)]; exact s1.1.2
    have h19a : mI (setI m1 (X + 12) 0 0) (X + 12) 19 = nI 0 := by rw [mI_setI, if_neg (by omega), i1 _ _ (by omega)]; exact hRG.1
    unfold f_X4_begin
    rw [q_pI12 hLm1, q_cl12 hLa, b_eq (eq _ hLa h7a), i_f n10, b_eq (ein _), i_f n10, q_gI12 hLa, h7a, nI_add, i_t (leL hpS (by omega)), q_gI12 hLa, h19a, i_t (by decide), q_pI12 hLa, q_pI12 hLb2, q_pI12 hLc, q_pI12 hLd, ← hmq, b_eq (show f_X4_begin_L72 2100 (X + 12) (nI p) (nI n) 0 mq = _ from e1), q_cl12 hL2, b_eq elft]; rfl
  · have hs0 : sumF (fun _ => 0) n = 0 := sum_zero (fun _ _ => rfl)
    have hIL2 := hIL
    obtain ⟨l1, l2, l3, l4, l5, l6, l7⟩ := hIL
    refine ⟨hL2, hAd.IW hw (fun k => ⟨by omega, by omega, by omega, fun w hw => by omega⟩), nS, nn, us, od, sa, sz, num, ti, rk, rv, lv, v, nM, mk, loc, tt, n, ao, ⟨hAd.RO s1 ⟨fun k => ⟨by omega, by omega, by omega⟩, by omega, by omega⟩, hAd.RS s2 s5 (fun k => ⟨by omega, by omega, by omega, by omega, by omega⟩), s3, s4, WA_top s5 (by omega), F, hAd.RN rn ⟨⟨by omega, by omega, by omega⟩, by omega, by omega, by omega⟩, Nat.le_succ_of_le wn.1, wn.2.1, fun s hs => ⟨(wn.2.2.1 s hs).1, Nat.le_succ_of_le (wn.2.2.1 s hs).2⟩, wn.2.2.2⟩, ⟨hAd.RV l1 (fun k => ⟨by omega, by omega⟩), l2, hAd.RM l3 ⟨fun k => ⟨by omega, by omega, by omega⟩, by omega, by omega⟩, l4, hAd.RLv l5 s5 (fun k => by omega), hAd.RLo l6 (fun k => ⟨by omega, by omega, by omega⟩), l7⟩, ⟨p, 0, 0, sumF (fun k => sz (od (p + k))) n, fun _ => 0, gg, wk, wi, nk, nv, nt, ⟨t19, fun q => absurd q (by omega), fun _ => ⟨?_, hMg, ⟨t20, t21, t22⟩, fun k hk => ⟨(e3 k).1 (by omega) hk, fun i hi => absurd hi (Nat.not_lt_zero _)⟩, fun j hj => absurd hj (by omega)⟩⟩, fun k hk => Nat.le_succ_of_le (hWG.1 k hk), Or.inr ⟨⟨hn2, by omega, hpS⟩, ⟨fun k hk => Nat.zero_le _, hs0.symm, rfl⟩, ⟨hX, by omega, fun s hs => Or.inr (by have := s5.1 s hs; omega)⟩, fun k i _ hi => absurd hi (Nat.not_lt_zero _), fun j hj => absurd hj (by omega), fun i j _ hj => absurd hj (by omega), fun k i r j _ hi => absurd hi (Nat.not_lt_zero _), fun j k i hj => absurd hj (by omega), fun k i _ hi => absurd hi (Nat.not_lt_zero _)⟩⟩, ⟨dn, da, ea, dm, er, dg, hAd.RD hRD hWD (Nat.le_refl _) (by omega) (fun k => ⟨by omega, by omega, by omega⟩) (by omega), ?_⟩⟩
    · rw [hAA.2.2.1, hm1, mR_setR, if_pos ⟨rfl, rfl⟩]
    · obtain ⟨v1, v2, v3, v4⟩ := hWD
      refine ⟨v1, fun k hk => ?_, v3, fun q => ?_⟩
      · obtain ⟨u1, u2, ⟨u3, u4, u5, u6⟩, u7⟩ := v2 k hk
        exact ⟨u1, by omega, ⟨u3, by omega, u5, fun _ => Or.inl (by omega)⟩, u7⟩
      · obtain ⟨u3, u4, u5, u6⟩ := v4 q
        exact ⟨u3, by omega, u5, fun _ => Or.inl (by omega)⟩
end BEG

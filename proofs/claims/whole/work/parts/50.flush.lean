/-! flush -/
section FLU
variable {X c : Nat} {m : Mem} {nM : Nat} {mk : Nat → Nat}
theorem rank_inj (wm : WM nM mk) {p q : Nat} (hp : p < nM) (hq : q < nM) (h : rankN mk nM (mk p) = rankN mk nM (mk q)) : p = q := by
  refine wm.2.2 p q hp hq ?_
  rcases Nat.lt_trichotomy (mk p) (mk q) with g | g | g
  · have := rank_mono (mk := mk) (nM := nM) (a := mk p + 1) (b := mk q) g
    rw [rank_in wm hp] at this
    omega
  · exact g
  · have := rank_mono (mk := mk) (nM := nM) (a := mk q + 1) (b := mk p) g
    rw [rank_in wm hq] at this
    omega
theorem rank_lt (wm : WM nM mk) {p : Nat} (hp : p < nM) : rankN mk nM (mk p) < nM := by
  have := rank_in wm hp
  have := rank_le (mk := mk) (nM := nM) (mk p + 1)
  omega
theorem rankOf_spec (hL : SL X m) (h2 : mI m (X + 2) 2 = nI nM) (h3 : ∀ j, j < nM → mI m (X + 3) j = nI (mk j)) (wm : WM nM mk) {k : Nat} (hk : k < 100) : f_X0_rankOf (X + 2) (nI k) m = some (nI (rankN mk nM k), m) := by
  have h6 := wm.1
  have L : ∀ d f i, i + d = nM → d < f → f_X0_rankOf_L4 f (X + 2) (nI k) (nI (cnt (fun j => decide (mk j < k)) i)) (nI i) m = some ((nI (rankN mk nM k), nI nM), m) := by
    intro d
    induction d with
    | zero =>
      intro f i hi hf
      obtain ⟨f, rfl⟩ : ∃ g, f = g + 1 := ⟨f - 1, by omega⟩
      have : i = nM := by omega
      subst this
      unfold f_X0_rankOf_L4
      rw [q_gI2 hL, h2, i_t (leL (Nat.le_refl _) (by omega))]; rfl
    | succ d ih =>
      intro f i hi hf
      obtain ⟨f, rfl⟩ : ∃ g, f = g + 1 := ⟨f - 1, by omega⟩
      have hmi := wm.2.1 i (by omega)
      unfold f_X0_rankOf_L4
      rw [q_gI2 hL, h2, i_f (leN (by omega) (by omega)), q_gN2_0 hL, q_lI3 hL (by omega), h3 i (by omega)]
      by_cases e : mk i < k
      · rw [i_f (leN e (by omega)), nI_1, nI_1, ← cnt_st (f := fun j => decide (mk j < k)) (by simp [e])]
        exact ih f (i + 1) (by omega) (by omega)
      · rw [i_t (leL (by omega) (by omega)), nI_1, ← cnt_sf (f := fun j => decide (mk j < k)) (n := i) (by simp [e])]
        exact ih f (i + 1) (by omega) (by omega)
  unfold f_X0_rankOf
  rw [b_eq (show f_X0_rankOf_L4 2100 (X + 2) (nI k) 0 0 m = _ from L nM 2100 0 (by omega) (by omega))]; rfl
theorem asSeg_L {a : Nat} {v : Nat → Int32} (wm : WM nM mk) (ha : X + 37 ≤ a) (y : Int32) : ∀ d f i (m : Mem), i + d = nM → d < f → SL X m → mI m (X + 2) 2 = nI nM → (∀ j, j < nM → mI m (X + 3) j = nI (mk j) ∧ mI m (X + 4) j = v (mk j)) → SgK m a nM → mI m a 7 = nI i →
    ∃ m2, f_X0_asSegment_L16 f (X + 2) y a (nI i) m = some (nI nM, m2) ∧ Ag (fun b j => (b = a ∧ j = 7) ∨ ((b = a + 1 ∨ b = a + 2 ∨ b = a + 3) ∧ ∃ q, i ≤ q ∧ q < nM ∧ j = rankN mk nM (mk q))) m m2 ∧ mI m2 a 7 = nI nM ∧ ∀ q, i ≤ q → q < nM → mI m2 (a + 1) (rankN mk nM (mk q)) = nI (mk q) ∧ mI m2 (a + 2) (rankN mk nM (mk q)) = v (mk q) ∧ mI m2 (a + 3) (rankN mk nM (mk q)) = 1 := by
  intro d
  have h6 := wm.1
  induction d with
  | zero =>
    intro f i m hi hf hL h2 h3 hg h7
    obtain ⟨f, rfl⟩ : ∃ g, f = g + 1 := ⟨f - 1, by omega⟩
    have : i = nM := by omega
    subst this
    refine ⟨m, ?_, Ag.refl, h7, fun q h1 h2 => absurd h2 (by omega)⟩
    unfold f_X0_asSegment_L16
    rw [q_gI2 hL, h2, i_t (leL (Nat.le_refl _) (by omega))]; rfl
  | succ d ih =>
    intro f i m hi hf hL h2 h3 hg h7
    obtain ⟨f, rfl⟩ : ∃ g, f = g + 1 := ⟨f - 1, by omega⟩
    have hi2 : i < nM := by omega
    obtain ⟨m1, e1, e2, ⟨e3, e4, e5⟩, e6⟩ := write_spec hg (by omega) (rank_lt wm hi2) (nI (mk i)) (v (mk i)) 1 (Or.inr rfl)
    rw [if_neg n10, h7, nI_1] at e6
    obtain ⟨m2, g1, g2, g3, g4⟩ := ih f (i + 1) m1 (by omega) (by omega) (e2.SL hL) (by rw [e2.2.2.2.2 _ _ (by omega)]; exact h2) (fun j hj => by rw [e2.2.2.2.2 _ _ (by omega), e2.2.2.2.2 _ _ (by omega)]; exact h3 j hj) (e2.SgK hg) e6
    refine ⟨m2, ?_, (e2.trans g2).mono (fun b j q => ?_), g3, fun q h1 h4 => ?_⟩
    · unfold f_X0_asSegment_L16
      rw [q_gI2 hL, h2, i_f (leN hi2 (by omega)), q_gN2_0 hL, q_lI3 hL (by omega), (h3 i hi2).1, q_cl2 hL, b_eq (rankOf_spec hL h2 (fun j hj => (h3 j hj).1) wm (wm.2.1 i hi2)), q_gN2_0 hL, q_lI3 hL (by omega), (h3 i hi2).1, q_gN2_1 hL, q_lI4 hL (by omega), (h3 i hi2).2, b_cl hg.1.1, b_eq e1, nI_1]
      exact g1
    · rcases q with (q | q) | (q | ⟨q1, q, q2, q3, q4⟩)
      · exact Or.inl q
      · exact Or.inr ⟨q.1, i, Nat.le_refl _, hi2, q.2⟩
      · exact Or.inl q
      · exact Or.inr ⟨q1, q, by omega, q3, q4⟩
    · by_cases e : q = i
      · subst e
        have hn : ∀ b, b = a + 1 ∨ b = a + 2 ∨ b = a + 3 → ¬ ((b = a ∧ rankN mk nM (mk q) = 7) ∨ ((b = a + 1 ∨ b = a + 2 ∨ b = a + 3) ∧ ∃ p, q + 1 ≤ p ∧ p < nM ∧ rankN mk nM (mk q) = rankN mk nM (mk p))) := fun b hb z => by
          rcases z with z | ⟨-, p, p1, p2, p3⟩
          · omega
          · have := rank_inj wm hi2 p2 p3
            omega
        rw [g2.2.2.2.2 _ _ (hn _ (Or.inl rfl)), g2.2.2.2.2 _ _ (hn _ (Or.inr (Or.inl rfl))), g2.2.2.2.2 _ _ (hn _ (Or.inr (Or.inr rfl)))]
        exact ⟨e3, e4, e5⟩
      · exact g4 q (by omega) h4
theorem asSeg_x {v : Nat → Int32} (wm : WM nM mk) (hL : SL X m) (h2 : mI m (X + 2) 2 = nI nM) (h3 : ∀ j, j < nM → mI m (X + 3) j = nI (mk j) ∧ mI m (X + 4) j = v (mk j)) (y : Int32) : ∃ m2, f_X0_asSegment (X + 2) y m = some (mS m, m2) ∧ (∀ b, b < mS m → eqA m m2 b) ∧ mS m2 = mS m + 5 ∧ SgK m2 (mS m) nM ∧ (mI m2 (mS m) 0 = y ∧ mI m2 (mS m) 1 = 0 ∧ mI m2 (mS m) 2 = nI nM ∧ mI m2 (mS m) 7 = nI nM) ∧ ∀ q, q < nM → mI m2 (mS m + 1) (rankN mk nM (mk q)) = nI (mk q) ∧ mI m2 (mS m + 2) (rankN mk nM (mk q)) = v (mk q) ∧ mI m2 (mS m + 3) (rankN mk nM (mk q)) = 1 := by
  have h6 := wm.1
  have hX := hL.1
  have hL1 : SL X (allo m 2 0) := SL_allo hL
  obtain ⟨ma, a1, a2, a3, ⟨a4, a5, a6, a7⟩, a8⟩ := init_spec (m := allo m 2 0) (a := mS m) (sz := nM) (by rw [mK_allo, if_pos rfl]) rfl (by omega) y 0
  have hq : ∀ b, b < mS m → eqA m ma b := fun b hb => by
    obtain ⟨q1, q2, q3, q4⟩ := a8 b hb
    refine ⟨by rw [q1, mK_allo, if_neg (by omega)], by rw [q2, mN_allo, if_neg (by omega)], by rw [q3]; funext j; rw [mI_allo, if_neg (by omega)], by rw [q4]; funext j; rw [mR_allo, if_neg (by omega)]⟩
  have hLa : SL X ma := SL_eq hL (by omega) (fun j hj => ⟨(hq (X + j) (by omega)).1, (hq (X + j) (by omega)).2.1⟩) (fun j k b hj _ _ z => by rw [(hq (X + j) (by omega)).2.2.2]; exact z)
  obtain ⟨m2, b1, b2, b3, b4⟩ := asSeg_L (a := mS m) (v := v) wm hX y nM 2100 0 ma (by omega) (by omega) hLa (by rw [(hq (X + 2) (by omega)).2.2.1]; exact h2) (fun j hj => by rw [(hq (X + 3) (by omega)).2.2.1, (hq (X + 4) (by omega)).2.2.1]; exact h3 j hj) a3 a7
  have hS : ∀ b j, ¬ ((b = mS m ∧ j = 7) ∨ b = mS m + 1 ∨ b = mS m + 2 ∨ b = mS m + 3) → mI m2 b j = mI ma b j := fun b j z => b2.2.2.2.2 _ _ (fun q => by
    rcases q with q | ⟨q, -⟩ <;> omega)
  refine ⟨m2, ?_, fun b hb => ?_, by rw [b2.2.2.2.1]; exact a2, b2.SgK a3, ⟨?_, ?_, ?_, b3⟩, fun q hq => b4 q (by omega) hq⟩
  · unfold f_X0_asSegment
    rw [b_nO, q_gI2 hL1, mI_allo, if_neg (by omega), h2, b_eq a1, b_eq (show f_X0_asSegment_L16 2100 (X + 2) y (mS m) 0 ma = _ from b1)]; rfl
  · obtain ⟨q1, q2, q3, q4⟩ := hq b hb
    exact ⟨by rw [b2.1]; exact q1, by rw [b2.2.1]; exact q2, by rw [← q3]; funext j; exact hS b j (by omega), by rw [b2.2.2.1]; exact q4⟩
  · rw [hS _ _ (by omega)]; exact a4
  · rw [hS _ _ (by omega)]; exact a5
  · rw [hS _ _ (by omega)]; exact a6
theorem flush_q {v : Nat → Int32} {s : Nat} (wm : WM nM mk) (hs : s < 21) : ∀ d f k (m : Mem), k + d = 100 → d < f → SL X m → mI m (X + 12) 5 = nI nM → (∀ j, j < nM → mI m (X + 17) j = nI (mk j)) → (∀ a, a < 100 → mI m (X + 13) a = v a) → mI m (X + 22) s = nI (rankN mk nM k) →
    ∃ m2, f_X4_flush_L61 f (X + 12) (nI s) (nI k) m = some (nI 100, m2) ∧ Ag (fun b j => ((b = X + 23 ∨ b = X + 24 ∨ b = X + 25) ∧ 100 * s + rankN mk nM k ≤ j ∧ j < 100 * s + nM) ∨ (b = X + 22 ∧ j = s) ∨ ((b = X + 15 ∨ b = X + 16) ∧ ∃ q, q < nM ∧ k ≤ mk q ∧ j = mk q) ∨ (b = X + 12 ∧ j = 17)) m m2 ∧
      mI m2 (X + 22) s = nI nM ∧ mI m2 (X + 12) 17 = mI m (X + 12) 17 + nI (nM - rankN mk nM k) ∧ ∀ q, q < nM → k ≤ mk q → (mI m2 (X + 23) (100 * s + rankN mk nM (mk q)) = nI (mk q) ∧ mI m2 (X + 24) (100 * s + rankN mk nM (mk q)) = v (mk q) ∧ mI m2 (X + 25) (100 * s + rankN mk nM (mk q)) = 1) ∧ mI m2 (X + 15) (mk q) = nI s ∧ mI m2 (X + 16) (mk q) = nI (rankN mk nM (mk q)) := by
  intro d
  have h6 := wm.1
  induction d with
  | zero =>
    intro f k m hk hf hL h5 h17 h13 h22
    obtain ⟨f, rfl⟩ : ∃ g, f = g + 1 := ⟨f - 1, by omega⟩
    have : k = 100 := by omega
    subst this
    rw [rank_100 wm] at h22
    refine ⟨m, ?_, Ag.refl, h22, ?_, fun q hq hk => ?_⟩
    · unfold f_X4_flush_L61
      rw [i_t (by decide)]; rfl
    · rw [rank_100 wm, Nat.sub_self]
      show _ = mI m (X + 12) 17 + 0
      exact (Int32.add_zero _).symm
    · have := wm.2.1 q hq
      omega
  | succ d ih =>
    intro f k m hk hf hL h5 h17 h13 h22
    obtain ⟨f, rfl⟩ : ∃ g, f = g + 1 := ⟨f - 1, by omega⟩
    have hk9 : k < 100 := by omega
    have n100 : ¬ (100 : Int32) ≤ nI k := leN (n := 100) hk9 (by decide)
    rcases memAt_spec hL h5 h6 h17 wm hk9 with ⟨hno, e⟩ | ⟨q0, hq0, hq1, e⟩
    · obtain ⟨m2, g1, g2, g3, g4, g5⟩ := ih f (k + 1) m (by omega) (by omega) hL h5 h17 h13 (by rw [rank_out hno]; exact h22)
      rw [rank_out hno] at g2 g4
      refine ⟨m2, ?_, g2.mono (fun b j q => ?_), g3, g4, fun q hq hkq => g5 q hq ?_⟩
      · unfold f_X4_flush_L61
        rw [i_f n100, q_cl12 hL, b_eq e, i_t m1_lt, nI_1]
        exact g1
      · rcases q with q | q | ⟨q, p, p1, p2, p3⟩ | q
        · exact Or.inl q
        · exact Or.inr (Or.inl q)
        · exact Or.inr (Or.inr (Or.inl ⟨q, p, p1, by omega, p3⟩))
        · exact Or.inr (Or.inr (Or.inr q))
      · have := hno q hq
        omega
    · have hrk : rankN mk nM k < nM := by rw [← hq1]; exact rank_lt wm hq0
      have hr1 : rankN mk nM (k + 1) = rankN mk nM k + 1 := by rw [← hq1]; exact rank_in wm hq0
      obtain ⟨ma, a1, a2, ⟨a3, a4, a5⟩, a6, a7⟩ := lay_spec hL hs h22 (by omega) hk9 (v k) 1 (Or.inr rfl)
      have hLa : SL X ma := a2.SL hL
      have ha17 : mI ma (X + 12) 17 = mI m (X + 12) 17 := a2.2.2.2.2 _ _ (by omega)
      obtain ⟨mb, hmb⟩ : ∃ mb, mb = setI ma (X + 12) 17 (mI m (X + 12) 17 + 1) := ⟨_, rfl⟩
      have hLb : SL X mb := by rw [hmb]; exact hLa
      have hAb : Ag (fun b j => b = X + 12 ∧ j = 17) ma mb := by rw [hmb]; exact Ag.setI
      obtain ⟨m2, g1, g2, g3, g4, g5⟩ := ih f (k + 1) mb (by omega) (by omega) hLb (by rw [hAb.2.2.2.2 _ _ (by omega), a2.2.2.2.2 _ _ (by omega)]; exact h5) (fun j hj => by rw [hAb.2.2.2.2 _ _ (by omega), a2.2.2.2.2 _ _ (by omega)]; exact h17 j hj) (fun a ha => by rw [hAb.2.2.2.2 _ _ (by omega), a2.2.2.2.2 _ _ (by omega)]; exact h13 a ha) (by rw [hAb.2.2.2.2 _ _ (by omega), hr1]; exact a6)
      refine ⟨m2, ?_, ((a2.trans hAb).trans g2).mono (fun b j q => ?_), g3, ?_, fun q hq hkq => ?_⟩
      · unfold f_X4_flush_L61
        rw [i_f n100, q_cl12 hL, b_eq e, i_f (nI_lt0 (by omega)), q_gN12_1 hL, q_lI13 hL hk9, h13 k hk9, q_cl12 hL, b_eq a1, q_gI12 hLa, ha17, q_pI12 hLa, ← hmb, nI_1]
        exact g1
      · rcases q with ((q | q | ⟨-, q⟩) | q) | (q | q | ⟨q, p, p1, p2, p3⟩ | q)
        · exact Or.inl ⟨q.1, by omega, by omega⟩
        · exact Or.inr (Or.inl q)
        · exact Or.inr (Or.inr (Or.inl ⟨q.1, q0, hq0, by omega, by omega⟩))
        · exact Or.inr (Or.inr (Or.inr q))
        · exact Or.inl ⟨q.1, by omega, by omega⟩
        · exact Or.inr (Or.inl q)
        · exact Or.inr (Or.inr (Or.inl ⟨q, p, p1, by omega, p3⟩))
        · exact Or.inr (Or.inr (Or.inr q))
      · rw [g4, hmb, mI_setI, if_pos ⟨rfl, rfl⟩, Int32.add_assoc, hr1]
        congr 1
        show nI 1 + _ = _
        rw [nI_add]
        congr 1
        omega
      · by_cases ek : mk q = k
        · rw [ek]
          have hn1 : ∀ b, b = X + 23 ∨ b = X + 24 ∨ b = X + 25 → mI m2 b (100 * s + rankN mk nM k) = mI ma b (100 * s + rankN mk nM k) := fun b hb => by
            rw [g2.2.2.2.2 _ _ (fun z => by rcases z with z | z | ⟨z, -⟩ | z <;> omega), hAb.2.2.2.2 _ _ (by omega)]
          have hn2 : ∀ b, b = X + 15 ∨ b = X + 16 → mI m2 b k = mI ma b k := fun b hb => by
            rw [g2.2.2.2.2 _ _ (fun z => by rcases z with z | z | ⟨-, p, p1, p2, p3⟩ | z <;> omega), hAb.2.2.2.2 _ _ (by omega)]
          rw [hn1 _ (Or.inl rfl), hn1 _ (Or.inr (Or.inl rfl)), hn1 _ (Or.inr (Or.inr rfl)), hn2 _ (Or.inl rfl), hn2 _ (Or.inr rfl)]
          exact ⟨⟨a3, a4, a5⟩, a7 n10⟩
        · exact g5 q hq (by omega)
end FLU

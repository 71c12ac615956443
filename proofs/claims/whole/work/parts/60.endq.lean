/-! the merge ends: the reference's loops -/
section ENDQ
variable {X c : Nat} {m : Mem}
variable {gp gn gt gw : Nat} {O N T Z : Nat → Nat} {R : Nat → Nat → Nat} {V : Nat → Nat → Int32} {Lv : Nat → Nat → Bool} {gg : Nat → Nat → Int32} {wk wi nk : Nat → Nat} {nv : Nat → Int32} {nt tt : Nat → Nat}
theorem end_L66 {k o z : Nat} {g : Nat → Int32} (hk : k < 6) (ho : o < 21) (hz : z ≤ 100) (x1 : Int32) : ∀ d f i (m : Mem), i + d = z → d < f → SL X m → mI m (X + 22) o = nI z → (∀ i, i < z → mI m (X + 30) (100 * k + i) = g i) →
    ∃ m2, f_X4_end_L66 f (X + 12) x1 (nI k) (nI o) (nI i) m = some (nI z, m2) ∧ Ag (fun b j => b = X + 33 ∧ 100 * k + i ≤ j ∧ j < 100 * k + z) m m2 ∧ ∀ q, i ≤ q → q < z → mI m2 (X + 33) (100 * k + q) = g q := by
  intro d
  induction d with
  | zero =>
    intro f i m hi hf hL h22 h30
    obtain ⟨f, rfl⟩ : ∃ g, f = g + 1 := ⟨f - 1, by omega⟩
    have : i = z := by omega
    subst this
    refine ⟨m, ?_, Ag.refl, fun q h1 h2 => absurd h2 (by omega)⟩
    unfold f_X4_end_L66
    rw [q_gN12_12 hL, q_lI22 hL ho, h22, i_t (leL (Nat.le_refl _) (by omega))]; rfl
  | succ d ih =>
    intro f i m hi hf hL h22 h30
    obtain ⟨f, rfl⟩ : ∃ g, f = g + 1 := ⟨f - 1, by omega⟩
    have hi2 : i < z := by omega
    have hL1 : SL X (setI m (X + 33) (100 * k + i) (g i)) := hL
    obtain ⟨m2, e1, e2, e3⟩ := ih f (i + 1) _ (by omega) (by omega) hL1 (by rw [mI_setI, if_neg (by omega)]; exact h22) (fun j hj => by rw [mI_setI, if_neg (by omega)]; exact h30 j hj)
    refine ⟨m2, ?_, (Ag.setI.trans e2).mono (fun b j q => by omega), fun q h1 h2 => ?_⟩
    · unfold f_X4_end_L66
      rw [q_gN12_12 hL, q_lI22 hL ho, h22, i_f (leN hi2 (by omega)), q_gN12_31 hL, q_gN12_27 hL, nI100, q_lI30 hL (by omega), h30 i hi2, q_sI33 hL (by omega), nI_1]
      exact e1
    · by_cases e : q = i
      · subst e
        rw [e2.2.2.2.2 _ _ (by omega), mI_setI, if_pos ⟨rfl, rfl⟩]
      · exact e3 q (by omega) h2
def E1 (X gn : Nat) (O : Nat → Nat) (k b j : Nat) : Prop := ((b = X + 31 ∨ b = X + 32) ∧ k ≤ j) ∨ (b = X + 33 ∧ 100 * k ≤ j) ∨ (b = X + 19 ∧ ∃ r, k ≤ r ∧ r < gn ∧ j = O r)
theorem end_L25 {B : Nat} (hB : B < 2 ^ 31) (hT : ∀ k, k < gn → T k ≤ B) (hg : gn ≤ 6) (hp : gp + gn ≤ 20) (hz : ∀ k, k < gn → Z k ≤ 100) (hO : ∀ k r, k < gn → r < gn → O k = O r → k = r) : ∀ d f k (m : Mem), k + d = gn → d < f → SL X m → (mI m (X + 12) 19 = nI gn ∧ mI m (X + 12) 20 = nI gp) → (∀ r, r < gn → mI m (X + 18) (gp + r) = nI (O r) ∧ O r < 21 ∧ (mI m (X + 20) (O r) = nI (N r) ∧ mI m (X + 21) (O r) = nI (T r) ∧ mI m (X + 22) (O r) = nI (Z r)) ∧ ∀ i, i < Z r → mI m (X + 30) (100 * r + i) = gg r i) →
    ∃ m2, f_X4_end_L25 f (X + 12) (nI (mxT T k)) (nI k) m = some ((nI (mxT T gn), nI gn), m2) ∧ Ag (E1 X gn O k) m m2 ∧ ∀ r, k ≤ r → r < gn → (mI m2 (X + 31) r = nI (N r) ∧ mI m2 (X + 32) r = nI (Z r) ∧ mI m2 (X + 19) (O r) = 0) ∧ ∀ i, i < Z r → mI m2 (X + 33) (100 * r + i) = gg r i := by
  intro d
  induction d with
  | zero =>
    intro f k m hk hf hL h12 hK
    obtain ⟨f, rfl⟩ : ∃ g, f = g + 1 := ⟨f - 1, by omega⟩
    have : k = gn := by omega
    subst this
    refine ⟨m, ?_, Ag.refl, fun q h1 h2 => absurd h2 (by omega)⟩
    unfold f_X4_end_L25
    rw [q_gI12 hL, h12.1, i_t (leL (Nat.le_refl _) (by omega))]; rfl
  | succ d ih =>
    intro f k m hk hf hL h12 hK
    obtain ⟨f, rfl⟩ : ∃ g, f = g + 1 := ⟨f - 1, by omega⟩
    have hk2 : k < gn := by omega
    obtain ⟨k1, k2, ⟨k3, k4, k5⟩, k6⟩ := hK k hk2
    have hzk := hz k hk2
    obtain ⟨ma, hma⟩ : ∃ ma, ma = setI m (X + 31) k (nI (N k)) := ⟨_, rfl⟩
    have hLa : SL X ma := by rw [hma]; exact hL
    obtain ⟨mb, hmb⟩ : ∃ mb, mb = setI ma (X + 32) k (nI (Z k)) := ⟨_, rfl⟩
    have hLb : SL X mb := by rw [hmb]; exact hLa
    have hAb : Ag (fun b j => (b = X + 31 ∨ b = X + 32) ∧ j = k) m mb := by
      rw [hmb, hma]
      exact (Ag.setI.trans Ag.setI).mono (fun b j q => by omega)
    obtain ⟨mc, c1, c2, c3⟩ := end_L66 (X := X) (k := k) (o := O k) (z := Z k) (g := gg k) (by omega) k2 hzk (nI (mxT T k)) (Z k) 2100 0 mb (by omega) (by omega) hLb (by rw [hAb.2.2.2.2 _ _ (by omega)]; exact k5) (fun i hi => by rw [hAb.2.2.2.2 _ _ (by omega)]; exact k6 i hi)
    have hLc : SL X mc := c2.SL hLb
    obtain ⟨md, hmd⟩ : ∃ md, md = setI mc (X + 19) (O k) 0 := ⟨_, rfl⟩
    have hLd : SL X md := by rw [hmd]; exact hLc
    have hAd : Ag (fun b j => ((b = X + 31 ∨ b = X + 32) ∧ j = k) ∨ (b = X + 33 ∧ 100 * k + 0 ≤ j ∧ j < 100 * k + Z k) ∨ (b = X + 19 ∧ j = O k)) m md := by
      rw [hmd]
      refine ((hAb.trans c2).trans Ag.setI).mono (fun b j q => ?_)
      rcases q with (q | q) | q
      · exact Or.inl q
      · exact Or.inr (Or.inl q)
      · exact Or.inr (Or.inr q)
    have fd : ∀ b j, ¬ (b = X + 31 ∨ b = X + 32 ∨ b = X + 33 ∨ b = X + 19) → mI md b j = mI m b j := fun b j q => hAd.2.2.2.2 _ _ (by omega)
    obtain ⟨m2, g1, g2, g3⟩ := ih f (k + 1) md (by omega) (by omega) hLd ⟨by rw [fd _ _ (by omega)]; exact h12.1, by rw [fd _ _ (by omega)]; exact h12.2⟩ (fun r hr => by
      obtain ⟨r1, r2, ⟨r3, r4, r5⟩, r6⟩ := hK r hr
      refine ⟨by rw [fd _ _ (by omega)]; exact r1, r2, ⟨by rw [fd _ _ (by omega)]; exact r3, by rw [fd _ _ (by omega)]; exact r4, by rw [fd _ _ (by omega)]; exact r5⟩, fun i hi => by rw [fd _ _ (by omega)]; exact r6 i hi⟩)
    have hmx : mxT T k ≤ B := mxT_le (fun j hj => hT j (by omega))
    have hTk := hT k hk2
    refine ⟨m2, ?_, (hAd.trans g2).mono (fun b j q => ?_), fun r h1 h2 => ?_⟩
    · have e31 : mI m (X + 20) (O k) = nI (N k) := k3
      have e22 : mI ma (X + 22) (O k) = nI (Z k) := by rw [hma, mI_setI, if_neg (by omega)]; exact k5
      have e21 : mI mc (X + 21) (O k) = nI (T k) := by rw [c2.2.2.2.2 _ _ (by omega), hAb.2.2.2.2 _ _ (by omega)]; exact k4
      unfold f_X4_end_L25
      rw [q_gI12 hL, h12.1, i_f (leN hk2 (by omega)), q_cl12 hL, b_eq (slotOf_eq hL (od := fun _ => O k) h12.2 k1 (by omega)), q_gN12_29 hL, q_gN12_10 hL, q_lI20 hL k2, e31, q_sI31 hL (by omega), ← hma, q_gN12_30 hLa, q_gN12_12 hLa, q_lI22 hLa k2, e22, q_sI32 hLa (by omega), ← hmb, b_eq (show f_X4_end_L66 2100 (X + 12) (nI (mxT T k)) (nI k) (nI (O k)) 0 mb = _ from c1), q_gN12_11 hLc, q_lI21 hLc k2, e21]
      by_cases q : mxT T k < T k
      · have em : mxT T (k + 1) = T k := by
          show (if mxT T k < T k then T k else mxT T k) = _
          rw [if_pos q]
        rw [em] at g1
        rw [i_f (leN q (by omega)), q_gN12_11 hLc, q_lI21 hLc k2, e21, q_gN12_9 hLc, q_sI19 hLc k2 (Or.inl rfl), ← hmd, nI_1]
        exact g1
      · have em : mxT T (k + 1) = mxT T k := by
          show (if mxT T k < T k then T k else mxT T k) = _
          rw [if_neg q]
        rw [em] at g1
        rw [i_t (leL (by omega) (by omega)), q_gN12_9 hLc, q_sI19 hLc k2 (Or.inl rfl), ← hmd, nI_1]
        exact g1
    · rcases q with (q | q | q) | (q | q | ⟨q, r, r1, r2, r3⟩)
      · exact Or.inl ⟨q.1, by omega⟩
      · exact Or.inr (Or.inl ⟨q.1, by omega⟩)
      · exact Or.inr (Or.inr ⟨q.1, k, Nat.le_refl _, hk2, q.2⟩)
      · exact Or.inl ⟨q.1, by omega⟩
      · exact Or.inr (Or.inl ⟨q.1, by omega⟩)
      · exact Or.inr (Or.inr ⟨q, r, by omega, r2, r3⟩)
    · by_cases e : r = k
      · subst e
        have fz : ∀ b j, ¬ (((b = X + 31 ∨ b = X + 32) ∧ r + 1 ≤ j) ∨ (b = X + 33 ∧ 100 * (r + 1) ≤ j)) → (b = X + 19 → j = O r) → mI m2 b j = mI md b j := fun b j q q2 => g2.2.2.2.2 _ _ (fun z => by
          rcases z with z | z | ⟨z, r1, r2, r3, r4⟩
          · exact q (Or.inl z)
          · exact q (Or.inr z)
          · have := hO r r1 hk2 r3 (by rw [← q2 z, r4])
            omega)
        refine ⟨⟨?_, ?_, ?_⟩, fun i hi => ?_⟩
        · rw [fz _ _ (by omega) (by omega), hmd, mI_setI, if_neg (by omega), c2.2.2.2.2 _ _ (by omega), hmb, mI_setI, if_neg (by omega), hma, mI_setI, if_pos ⟨rfl, rfl⟩]
        · rw [fz _ _ (by omega) (by omega), hmd, mI_setI, if_neg (by omega), c2.2.2.2.2 _ _ (by omega), hmb, mI_setI, if_pos ⟨rfl, rfl⟩]
        · rw [fz _ _ (by omega) (fun _ => rfl), hmd, mI_setI, if_pos ⟨rfl, rfl⟩]
        · rw [fz _ _ (by omega) (by omega), hmd, mI_setI, if_neg (by omega)]
          exact c3 i (by omega) hi
      · exact g3 r (by omega) h2
theorem end_L219 {nS n : Nat} (hn : 1 ≤ n) (h20 : nS ≤ 20) (x1 x2 x4 x5 : Int32) : ∀ d f q (m : Mem), q + d = nS → d < f → n ≤ q → SL X m → mI m (X + 12) 7 = nI nS →
    ∃ m2, f_X4_end_L219 f (X + 12) x1 x2 (nI n) x4 x5 (nI q) m = some (nI nS, m2) ∧ Ag (fun b j => b = X + 18 ∧ q ≤ j + n ∧ j + n < nS) m m2 ∧ ∀ j, q ≤ j + n → j + n < nS → mI m2 (X + 18) j = mI m (X + 18) (j + n) := by
  intro d
  induction d with
  | zero =>
    intro f q m hq hf hnq hL h7
    obtain ⟨f, rfl⟩ : ∃ g, f = g + 1 := ⟨f - 1, by omega⟩
    have : q = nS := by omega
    subst this
    refine ⟨m, ?_, Ag.refl, fun j h1 h2 => absurd h2 (by omega)⟩
    unfold f_X4_end_L219
    rw [q_gI12 hL, h7, i_t (leL (Nat.le_refl _) (by omega))]; rfl
  | succ d ih =>
    intro f q m hq hf hnq hL h7
    obtain ⟨f, rfl⟩ : ∃ g, f = g + 1 := ⟨f - 1, by omega⟩
    have hL1 : SL X (setI m (X + 18) (q - n) (mI m (X + 18) q)) := hL
    obtain ⟨m2, e1, e2, e3⟩ := ih f (q + 1) _ (by omega) (by omega) (by omega) hL1 (by rw [mI_setI, if_neg (by omega)]; exact h7)
    refine ⟨m2, ?_, (Ag.setI.trans e2).mono (fun b j z => by omega), fun j h1 h2 => ?_⟩
    · unfold f_X4_end_L219
      rw [q_gI12 hL, h7, i_f (leN (by omega) (by omega)), q_gN12_8 hL, q_gN12_8 hL, q_lI18 hL (by omega), pk_sub hnq, q_sI18 hL (by omega), nI_1]
      exact e1
    · by_cases e : j + n = q
      · have ej : j = q - n := by omega
        rw [e2.2.2.2.2 _ _ (by omega), mI_setI, if_pos ⟨rfl, ej⟩, e]
      · rw [e3 j (by omega) h2, mI_setI, if_neg (by omega)]
theorem end_L299 {s0 : Nat} {al : Nat → Bool} (hs : s0 < 21) (hw : gw ≤ 100) (hnk : ∀ j, j < gw → nk j < 100) (hinc : ∀ i j, i < j → j < gw → nk i < nk j) (hal : ∀ j, j < gw → (al j = true ↔ nI (tt (nk j)) = nI (nt j))) (x1 x2 x3 x4 : Int32) : ∀ d f j (m : Mem), j + d = gw → d < f → SL X m → mI m (X + 12) 22 = nI gw → (∀ j, j < gw → mI m (X + 27) j = nI (nk j) ∧ mI m (X + 28) j = nv j ∧ mI m (X + 29) j = nI (nt j)) → (∀ a, a < 100 → mI m (X + 14) a = nI (tt a)) → mI m (X + 22) s0 = nI j →
    ∃ m2, f_X4_end_L299 f (X + 12) x1 x2 x3 x4 (nI s0) (nI j) m = some (nI gw, m2) ∧ Ag (fun b i => ((b = X + 23 ∨ b = X + 24 ∨ b = X + 25) ∧ 100 * s0 + j ≤ i ∧ i < 100 * s0 + gw) ∨ (b = X + 22 ∧ i = s0) ∨ ((b = X + 15 ∨ b = X + 16) ∧ ∃ q, j ≤ q ∧ q < gw ∧ al q = true ∧ i = nk q)) m m2 ∧ mI m2 (X + 22) s0 = nI gw ∧ ∀ q, j ≤ q → q < gw → (mI m2 (X + 23) (100 * s0 + q) = nI (nk q) ∧ mI m2 (X + 24) (100 * s0 + q) = nv q ∧ mI m2 (X + 25) (100 * s0 + q) = b2i (al q)) ∧ (al q = true → mI m2 (X + 15) (nk q) = nI s0 ∧ mI m2 (X + 16) (nk q) = nI q) := by
  intro d
  induction d with
  | zero =>
    intro f j m hj hf hL h22 hN hT h22s
    obtain ⟨f, rfl⟩ : ∃ g, f = g + 1 := ⟨f - 1, by omega⟩
    have : j = gw := by omega
    subst this
    refine ⟨m, ?_, Ag.refl, h22s, fun q h1 h2 => absurd h2 (by omega)⟩
    unfold f_X4_end_L299
    rw [q_gI12 hL, h22, i_t (leL (Nat.le_refl _) (by omega))]; rfl
  | succ d ih =>
    intro f j m hj hf hL h22 hN hT h22s
    obtain ⟨f, rfl⟩ : ∃ g, f = g + 1 := ⟨f - 1, by omega⟩
    have hj2 : j < gw := by omega
    obtain ⟨n1, n2, n3⟩ := hN j hj2
    have hk := hnk j hj2
    obtain ⟨ma, a1, a2, ⟨a3, a4, a5⟩, a6, a7⟩ := lay_spec hL hs h22s (by omega) hk (nv j) (b2i (al j)) (b2i_01 _)
    have hLa : SL X ma := a2.SL hL
    have fa : ∀ b i, ¬ (b = X + 23 ∨ b = X + 24 ∨ b = X + 25 ∨ b = X + 22 ∨ b = X + 15 ∨ b = X + 16) → mI ma b i = mI m b i := fun b i q => a2.2.2.2.2 _ _ (fun z => by
      rcases z with z | z | ⟨-, z⟩ <;> omega)
    obtain ⟨m2, g1, g2, g3, g4⟩ := ih f (j + 1) ma (by omega) (by omega) hLa (by rw [fa _ _ (by omega)]; exact h22) (fun q hq => by rw [fa _ _ (by omega), fa _ _ (by omega), fa _ _ (by omega)]; exact hN q hq) (fun a ha => by rw [fa _ _ (by omega)]; exact hT a ha) a6
    refine ⟨m2, ?_, (a2.trans g2).mono (fun b i q => ?_), g3, fun q h1 h2 => ?_⟩
    · unfold f_X4_end_L299
      rw [q_gI12 hL, h22, i_f (leN hj2 (by omega)), q_gN12_24 hL, q_lI27 hL (by omega), n1, q_gN12_25 hL, q_lI28 hL (by omega), n2, q_gN12_2 hL, q_gN12_24 hL, q_lI27 hL (by omega), n1, q_lI14 hL hk, hT _ hk, q_gN12_26 hL, q_lI29 hL (by omega), n3]
      cases hl : al j with
      | true =>
        rw [hl] at a1
        rw [i_t ((hal j hj2).mp hl), q_cl12 hL, b_eq (show f_X4_lay (X + 12) (nI s0) (nI (nk j)) (nv j) 1 m = _ from a1), nI_1]
        exact g1
      | false =>
        rw [hl] at a1
        rw [i_f (fun q => by have := (hal j hj2).mpr q; rw [hl] at this; cases this), q_cl12 hL, b_eq (show f_X4_lay (X + 12) (nI s0) (nI (nk j)) (nv j) 0 m = _ from a1), nI_1]
        exact g1
    · rcases q with (q | q | ⟨q0, q⟩) | (q | q | ⟨q, r, r1, r2, r3, r4⟩)
      · exact Or.inl ⟨q.1, by omega, by omega⟩
      · exact Or.inr (Or.inl q)
      · refine Or.inr (Or.inr ⟨q.1, j, Nat.le_refl _, hj2, ?_, q.2⟩)
        cases e : al j with
        | true => rfl
        | false => rw [e] at q0; exact absurd rfl q0
      · exact Or.inl ⟨q.1, by omega, by omega⟩
      · exact Or.inr (Or.inl q)
      · exact Or.inr (Or.inr ⟨q, r, by omega, r2, r3, r4⟩)
    · by_cases e : q = j
      · subst e
        have f1 : ∀ b, b = X + 23 ∨ b = X + 24 ∨ b = X + 25 → mI m2 b (100 * s0 + q) = mI ma b (100 * s0 + q) := fun b hb => g2.2.2.2.2 _ _ (fun z => by
          rcases z with z | z | ⟨z, -⟩ <;> omega)
        have f2 : ∀ b, b = X + 15 ∨ b = X + 16 → mI m2 b (nk q) = mI ma b (nk q) := fun b hb => g2.2.2.2.2 _ _ (fun z => by
          rcases z with z | z | ⟨-, r, r1, r2, -, r4⟩
          · omega
          · omega
          · have := hinc q r (by omega) r2
            omega)
        refine ⟨by rw [f1 _ (Or.inl rfl), f1 _ (Or.inr (Or.inl rfl)), f1 _ (Or.inr (Or.inr rfl))]; exact ⟨a3, a4, a5⟩, fun hl => ?_⟩
        rw [f2 _ (Or.inl rfl), f2 _ (Or.inr rfl)]
        exact a7 (by rw [hl]; exact b2i_t)
      · exact g4 q (by omega) h2
end ENDQ

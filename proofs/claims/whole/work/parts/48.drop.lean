section OPP3
variable {X c : Nat} {m : Mem}
theorem removeAt_x {nM : Nat} (hn : nM ≤ 6) (y : Int32) : ∀ d f i (m : Mem), i + 1 + d = nM → d < f → SL X m → mI m (X + 2) 2 = nI nM → ∃ r m2, f_X0_removeAt_L2 f (X + 2) y (nI i) m = some (r, m2) ∧ Ag (fun b q => (b = X + 3 ∨ b = X + 4) ∧ i ≤ q) m m2 ∧ ∀ q, i ≤ q → q + 1 < nM → mI m2 (X + 3) q = mI m (X + 3) (q + 1) ∧ mI m2 (X + 4) q = mI m (X + 4) (q + 1) := by
  intro d
  induction d with
  | zero =>
    intro f i m hi hf hL h2
    obtain ⟨f, rfl⟩ : ∃ g, f = g + 1 := ⟨f - 1, by omega⟩
    refine ⟨nI i, m, ?_, Ag.refl, fun q h1 h2 => absurd h2 (by omega)⟩
    unfold f_X0_removeAt_L2
    rw [q_gI2 hL, h2, nI_1, i_t (leL (by omega) (by omega))]; rfl
  | succ d ih =>
    intro f i m hi hf hL h2
    obtain ⟨f, rfl⟩ : ∃ g, f = g + 1 := ⟨f - 1, by omega⟩
    obtain ⟨ma, hma⟩ : ∃ ma, ma = setI m (X + 3) i (mI m (X + 3) (i + 1)) := ⟨_, rfl⟩
    obtain ⟨mb, hmb⟩ : ∃ mb, mb = setI ma (X + 4) i (mI m (X + 4) (i + 1)) := ⟨_, rfl⟩
    have hLa : SL X ma := by rw [hma]; exact hL
    have hLb : SL X mb := by rw [hmb]; exact hLa
    have hA : Ag (fun b q => (b = X + 3 ∧ q = i) ∨ (b = X + 4 ∧ q = i)) m mb := by
      rw [hmb, hma]; exact Ag.setI.trans Ag.setI
    obtain ⟨r, m2, e1, e2, e3⟩ := ih f (i + 1) mb (by omega) (by omega) hLb (by rw [hA.2.2.2.2 _ _ (by omega)]; exact h2)
    refine ⟨r, m2, ?_, (hA.trans e2).mono (fun b q z => by omega), fun q h1 h3 => ?_⟩
    · unfold f_X0_removeAt_L2
      rw [q_gI2 hL, h2, nI_1, i_f (leN (by omega) (by omega)), q_gN2_0 hL, q_gN2_0 hL, q_lI3 hL (by omega), q_sI3 hL (by omega), ← hma, q_gN2_1 hLa, q_gN2_1 hLa, q_lI4 hLa (by omega), q_sI4 hLa (by omega)]
      have e9 : mI ma (X + 4) (i + 1) = mI m (X + 4) (i + 1) := by rw [hma, mI_setI, if_neg (by omega)]
      rw [e9, ← hmb]
      exact e1
    · by_cases e : q = i
      · subst e
        rw [e2.2.2.2.2 _ _ (by omega), e2.2.2.2.2 _ _ (by omega), hmb, mI_setI, if_neg (by omega), mI_setI, if_pos ⟨rfl, rfl⟩, hma, mI_setI, if_pos ⟨rfl, rfl⟩]
        exact ⟨rfl, rfl⟩
      · obtain ⟨g1, g2⟩ := e3 q (by omega) h3
        rw [g1, g2, hA.2.2.2.2 _ _ (by omega), hA.2.2.2.2 _ _ (by omega)]
        exact ⟨rfl, rfl⟩
theorem removeAt_q {nM : Nat} (hn : nM + 1 ≤ 6) (x y : Int32) : ∀ d f i (m : Mem), i + d = nM → d < f → SL X m → mI m (X + 12) 5 = nI nM → ∃ r m2, f_X4_drop_L50 f (X + 12) x y (nI i) m = some (r, m2) ∧ Ag (fun b q => b = X + 17 ∧ i ≤ q) m m2 ∧ ∀ q, i ≤ q → q < nM → mI m2 (X + 17) q = mI m (X + 17) (q + 1) := by
  intro d
  induction d with
  | zero =>
    intro f i m hi hf hL h2
    obtain ⟨f, rfl⟩ : ∃ g, f = g + 1 := ⟨f - 1, by omega⟩
    refine ⟨nI i, m, ?_, Ag.refl, fun q h1 h2 => absurd h2 (by omega)⟩
    unfold f_X4_drop_L50
    rw [q_gI12 hL, h2, i_t (leL (by omega) (by omega))]; rfl
  | succ d ih =>
    intro f i m hi hf hL h2
    obtain ⟨f, rfl⟩ : ∃ g, f = g + 1 := ⟨f - 1, by omega⟩
    obtain ⟨ma, hma⟩ : ∃ ma, ma = setI m (X + 17) i (mI m (X + 17) (i + 1)) := ⟨_, rfl⟩
    have hLa : SL X ma := by rw [hma]; exact hL
    have hA : Ag (fun b q => b = X + 17 ∧ q = i) m ma := by
      rw [hma]; exact Ag.setI
    obtain ⟨r, m2, e1, e2, e3⟩ := ih f (i + 1) ma (by omega) (by omega) hLa (by rw [hA.2.2.2.2 _ _ (by omega)]; exact h2)
    refine ⟨r, m2, ?_, (hA.trans e2).mono (fun b q z => by omega), fun q h1 h3 => ?_⟩
    · unfold f_X4_drop_L50
      rw [q_gI12 hL, h2, nI_1, i_f (leN (by omega) (by omega)), q_gN12_6 hL, q_gN12_6 hL, q_lI17 hL (by omega), q_sI17 hL (by omega), ← hma]
      exact e1
    · by_cases e : q = i
      · subst e
        rw [e2.2.2.2.2 _ _ (by omega), hma, mI_setI, if_pos ⟨rfl, rfl⟩]
      · rw [e3 q (by omega) h3, hA.2.2.2.2 _ _ (by omega)]
theorem op_drop (h : Inv X c m) (a : Int32) : ∃ r m1 m2, cl 3 X (f_X3_drop X a) m = some (r, m1) ∧ cl 4 (X + 12) (f_X4_drop (X + 12) a) m1 = some (r, m2) ∧ Inv X (c + 1) m2 := by
  have hI := h
  have hL := h.1
  obtain ⟨-, hw, nS, nn, us, od, sa, sz, num, ti, rk, rv, lv, v, nM, mk, loc, tt, gn, ca, hIS, hIL, hIG, hID⟩ := h
  obtain ⟨l1, l2, l3, l4, l5, l6, l7⟩ := id hIL
  have hsa := (IS_sa hIS).1
  have h6 := l4.1
  have hL0 : SL X (setI m (X + 12) 0 0) := hL
  rcases key_spec a m (setI m (X + 12) 0 0) with ⟨k, hk, rfl, ek, -⟩ | ⟨ek, eq⟩
  rotate_left
  · refine op_q hI ⟨-1, ?_, ?_⟩
    · unfold f_X3_drop
      rw [b_eq ek, i_t (by rfl)]; rfl
    · unfold f_X4_drop
      rw [q_pI12 hL, b_eq eq, i_t (by rfl)]; rfl
  have eq : ∀ m2, f_X4_in (nI k) 0 99 m2 = some (1, m2) := fun m2 => by
    rcases key_spec (nI k) m m2 with ⟨-, -, -, -, e⟩ | ⟨e, -⟩
    · exact e
    · rw [ek] at e; exact absurd (congrArg Prod.fst (Option.some.inj e)) n10
  have hov := l2 k hk
  by_cases hv0 : v k = -1
  · refine op_q hI ⟨0, ?_, ?_⟩
    · unfold f_X3_drop
      rw [b_eq ek, i_f n10, q_gN0_0 hL, q_lI1 hL hk, (l1 k hk).1, i_t hv0]; rfl
    · unfold f_X4_drop
      rw [q_pI12 hL, b_eq (eq _), i_f n10, q_gN12_1 hL0, q_lI13 hL0 hk, mI_setI, if_neg (by omega), (l1 k hk).2, i_f (fun q => (hov.nn.mp q) hv0)]; rfl
  have hvn := hov.nn.mpr hv0
  obtain ⟨r, er, hr⟩ := find_spec (sk2 hL) (sp2_0 hL) (sk3 hL) (sn3 hL) l3.1.1 h6 (nI k)
  rcases hr with ⟨rfl, hr⟩ | ⟨j, hj, rfl, hr⟩
  · have hno : ∀ j, j < nM → mk j ≠ k := fun j hj e => hr j hj (by rw [(l3.2 j hj).1, e])
    obtain ⟨ma, k1, k2, k3⟩ := kill_all hL hIS l5 hk
    have hLa : SL X ma := k2.SL hL
    have hst : ∀ b j, b < X + 37 → mI ma b j = mI m b j := fun b j hb => k2.2.2.2.2 _ _ (killS_st hsa hb)
    obtain ⟨m1, hm1⟩ : ∃ m1, m1 = setI ma (X + 1) k (-1) := ⟨_, rfl⟩
    have hL1 : SL X m1 := by rw [hm1]; exact hLa
    have hAm1 : Ag (fun b j => b = X + 1 ∧ j = k) ma m1 := by
      rw [hm1]
      exact Ag.setI
    obtain ⟨mq, hmq⟩ : ∃ mq, mq = setI m1 (X + 12) 0 0 := ⟨_, rfl⟩
    have hLq : SL X mq := by rw [hmq]; exact hL1
    have hAq : Ag (fun b j => b = X + 12 ∧ j = 0) m1 mq := by
      rw [hmq]
      exact Ag.setI
    have hstq : ∀ b j, b < X + 37 → ¬ ((b = X + 1 ∧ j = k) ∨ (b = X + 12 ∧ j = 0)) → mI mq b j = mI m b j := fun b j hb q => by
      rw [hAq.2.2.2.2 _ _ (by omega), hAm1.2.2.2.2 _ _ (by omega), hst b j hb]
    have hloq : RLo X loc tt mq := fun a ha => by
      rw [hstq _ _ (by omega) (by omega), hstq _ _ (by omega) (by omega), hstq _ _ (by omega) (by omega)]
      exact l6 a ha
    obtain ⟨m2, t1, t2, t3, t4, t5⟩ := tail_spec hLq hloq hIS.2.2.2.1 l7 (fun s hs i hi => by
      rw [hstq _ _ (by omega) (by omega)]
      exact (l5 s hs).2 i hi) hk (-1)
    have hA2 := ((k2.trans hAm1).trans hAq).trans t2
    refine ⟨1, m1, m2, ?_, ?_, ?_⟩
    · rw [q_ce0 hL]
      unfold f_X3_drop
      rw [b_eq ek, i_f n10, q_gN0_0 hL, q_lI1 hL hk, (l1 k hk).1, i_f hv0, q_gN0_1 hL, q_cl2 hL, b_eq er, i_t (by rfl), q_cl0 hL, b_eq k1, q_gN0_0 hLa, q_sI1 hLa hk, ← hm1]; rfl
    · rw [q_ce12 hL1]
      unfold f_X4_drop
      rw [q_pI12 hL1, ← hmq, b_eq (eq _), i_f n10, q_gN12_1 hLq, q_lI13 hLq hk, hstq _ _ (by omega) (by omega), (l1 k hk).2, i_t hvn]
      rcases memAt_spec hLq (nM := nM) (mk := mk) (by rw [hstq _ _ (by omega) (by omega)]; exact l3.1.2) h6 (fun j hj => by rw [hstq _ _ (by omega) (by omega)]; exact (l3.2 j hj).2.1) l4 hk with ⟨-, e⟩ | ⟨j, hj, q, -⟩
      · rw [q_cl12 hLq, b_eq e, i_t m1_lt, t1]; rfl
      · exact absurd q (hno j hj)
    · have hv2 : ∀ b j, b < X + 37 → ¬ (b = X + 25 ∨ (b = X + 15 ∧ j = k) ∨ (b = X + 13 ∧ j = k) ∨ (b = X + 14 ∧ j = k)) → mI m2 b j = mI mq b j := fun b j hb q => t2.2.2.2.2 _ _ q
      refine Inv_key (v2 := va_up v k (-1)) (nM2 := nM) (mk2 := mk) hL hw hIS hIL hIG hID hk hA2 (fun b j q => ?_) (fun a ha => ?_) (by rw [va_s]; exact Or.inl rfl) (fun j hj => va_n hj) ⟨⟨?_, ?_⟩, fun j hj => ?_⟩ l4 (fun a ha => Iff.rfl) ?_ (fun s hs => ⟨?_, t5 s hs⟩) t4
      · rcases q with ((q | q) | q) | q
        · exact Or.inl q
        · exact Or.inr (by omega)
        · exact Or.inr (by omega)
        · exact Or.inr (by omega)
      · by_cases e : a = k
        · subst e
          rw [va_s]
          refine ⟨?_, t3⟩
          rw [hv2 _ _ (by omega) (by omega), hAq.2.2.2.2 _ _ (by omega), hm1, mI_setI, if_pos ⟨rfl, rfl⟩]
        · rw [va_n e, hv2 _ _ (by omega) (by omega), hstq _ _ (by omega) (by omega), hv2 _ _ (by omega) (by omega), hstq _ _ (by omega) (by omega)]
          exact l1 a ha
      · rw [hv2 _ _ (by omega) (by omega), hstq _ _ (by omega) (by omega)]; exact l3.1.1
      · rw [hv2 _ _ (by omega) (by omega), hstq _ _ (by omega) (by omega)]; exact l3.1.2
      · rw [hv2 _ _ (by omega) (by omega), hv2 _ _ (by omega) (by omega), hv2 _ _ (by omega) (by omega), va_n (hno j hj), hstq _ _ (by omega) (by omega), hstq _ _ (by omega) (by omega), hstq _ _ (by omega) (by omega)]
        exact l3.2 j hj
      · rw [va_s]
        exact ⟨fun q => absurd rfl q, fun ⟨j, hj, q⟩ => absurd q (hno j hj)⟩
      · have hs9 := hsa s hs
        exact SgL_ag ((hAm1.trans hAq).trans t2) (k3 s hs) ⟨by omega, fun k => by omega⟩
  · have hmj : mk j = k := by
      have := (l3.2 j hj).1
      rw [hr] at this
      exact ((nI_eq (by omega) (by have := l4.2.1 j hj; omega)).mp this).symm
    obtain ⟨r0, ma, a1, a2, a3⟩ := removeAt_x h6 (nI j) (nM - 1 - j) 2100 j m (by omega) (by omega) hL l3.1.1
    have hLa : SL X ma := a2.SL hL
    obtain ⟨mb, hmb⟩ : ∃ mb, mb = setI ma (X + 2) 2 (nI (nM - 1)) := ⟨_, rfl⟩
    have hLb : SL X mb := by rw [hmb]; exact hLa
    obtain ⟨m1, hm1⟩ : ∃ m1, m1 = setI mb (X + 1) k (-1) := ⟨_, rfl⟩
    have hL1 : SL X m1 := by rw [hm1]; exact hLb
    have hAm1 : Ag (fun b q => ((b = X + 3 ∨ b = X + 4) ∧ j ≤ q) ∨ (b = X + 2 ∧ q = 2) ∨ (b = X + 1 ∧ q = k)) m m1 := by
      rw [hm1, hmb]
      exact ((a2.trans Ag.setI).trans Ag.setI).mono (fun b q z => by omega)
    have hpr : nI nM - 1 = nI (nM - 1) := by
      have := nI_pred (nM - 1)
      rw [show nM - 1 + 1 = nM by omega] at this
      exact this
    obtain ⟨mc, hmc⟩ : ∃ mc, mc = setI m1 (X + 12) 0 0 := ⟨_, rfl⟩
    have hLc : SL X mc := by rw [hmc]; exact hL1
    obtain ⟨md, hmd⟩ : ∃ md, md = setI mc (X + 12) 5 (nI (nM - 1)) := ⟨_, rfl⟩
    have hLd : SL X md := by rw [hmd]; exact hLc
    have hAd : Ag (fun b q => b = X + 12 ∧ (q = 0 ∨ q = 5)) m1 md := by
      rw [hmd, hmc]
      exact (Ag.setI.trans Ag.setI).mono (fun b q z => by omega)
    obtain ⟨r1, mq, b1, b2, b3⟩ := removeAt_q (X := X) (nM := nM - 1) (by omega) (nI k) (nI j) (nM - 1 - j) 2100 j md (by omega) (by omega) hLd (by rw [hmd, mI_setI, if_pos ⟨rfl, rfl⟩])
    have hLq : SL X mq := b2.SL hLd
    have hAq := (hAm1.trans hAd).trans b2
    have hstq : ∀ b q, ¬ ((((b = X + 3 ∨ b = X + 4) ∧ j ≤ q) ∨ (b = X + 2 ∧ q = 2) ∨ (b = X + 1 ∧ q = k)) ∨ (b = X + 12 ∧ (q = 0 ∨ q = 5)) ∨ (b = X + 17 ∧ j ≤ q)) → mI mq b q = mI m b q := fun b q z => hAq.2.2.2.2 _ _ (by omega)
    have hloq : RLo X loc tt mq := fun a ha => by
      rw [hstq _ _ (by omega), hstq _ _ (by omega), hstq _ _ (by omega)]
      exact l6 a ha
    obtain ⟨m2, t1, t2, t3, t4, t5⟩ := tail_spec hLq hloq hIS.2.2.2.1 l7 (fun s hs i hi => by
      rw [hstq _ _ (by omega)]
      exact (l5 s hs).2 i hi) hk (-1)
    have hA2 := hAq.trans t2
    refine ⟨1, m1, m2, ?_, ?_, ?_⟩
    · rw [q_ce0 hL]
      unfold f_X3_drop
      rw [b_eq ek, i_f n10, q_gN0_0 hL, q_lI1 hL hk, (l1 k hk).1, i_f hv0, q_gN0_1 hL, q_cl2 hL, b_eq er, i_f (nI_m1 (by omega)), q_gN0_1 hL, q_cl2 hL, b_eq (r := ()) (m' := mb)]
      · rw [q_gN0_0 hLb, q_sI1 hLb hk, ← hm1]; rfl
      · unfold f_X0_removeAt
        rw [b_eq a1, q_gI2 hLa, a2.2.2.2.2 _ _ (by omega), l3.1.1, hpr, q_pI2 hLa, ← hmb]; rfl
    · rw [q_ce12 hL1]
      unfold f_X4_drop
      have hcm : ∀ b q, ¬ ((((b = X + 3 ∨ b = X + 4) ∧ j ≤ q) ∨ (b = X + 2 ∧ q = 2) ∨ (b = X + 1 ∧ q = k)) ∨ (b = X + 12 ∧ q = 0)) → mI mc b q = mI m b q := fun b q z => by
        rw [hmc, mI_setI, if_neg (by omega), hAm1.2.2.2.2 _ _ (by omega)]
      rw [q_pI12 hL1, ← hmc, b_eq (eq _), i_f n10, q_gN12_1 hLc, q_lI13 hLc hk, hcm _ _ (by omega), (l1 k hk).2, i_t hvn]
      rcases memAt_spec hLc (nM := nM) (mk := mk) (by rw [hcm _ _ (by omega)]; exact l3.1.2) h6 (fun j hj => by rw [hcm _ _ (by omega)]; exact (l3.2 j hj).2.1) l4 hk with ⟨q, -⟩ | ⟨i, hi, q, e⟩
      · exact absurd hmj (q j hj)
      · have hij : i = j := l4.2.2 i j hi hj (by rw [q, hmj])
        subst hij
        rw [q_cl12 hLc, b_eq e, i_f (nI_lt0 (by omega)), q_gI12 hLc, hcm _ _ (by omega), l3.1.2, hpr, q_pI12 hLc, ← hmd, b_eq b1, t1]; rfl
    · have hv2 : ∀ b j, ¬ (b = X + 25 ∨ (b = X + 15 ∧ j = k) ∨ (b = X + 13 ∧ j = k) ∨ (b = X + 14 ∧ j = k)) → mI m2 b j = mI mq b j := fun b j q => t2.2.2.2.2 _ _ q
      have hmq5 : mI mq (X + 12) 5 = nI (nM - 1) := by rw [b2.2.2.2.2 _ _ (by omega), hmd, mI_setI, if_pos ⟨rfl, rfl⟩]
      have hmq2 : mI mq (X + 2) 2 = nI (nM - 1) := by rw [b2.2.2.2.2 _ _ (by omega), hAd.2.2.2.2 _ _ (by omega), hm1, mI_setI, if_neg (by omega), hmb, mI_setI, if_pos ⟨rfl, rfl⟩]
      have h34 : ∀ b q, (b = X + 3 ∨ b = X + 4) → mI mq b q = mI ma b q := fun b q z => by
        rw [b2.2.2.2.2 _ _ (by omega), hAd.2.2.2.2 _ _ (by omega), hm1, mI_setI, if_neg (by omega), hmb, mI_setI, if_neg (by omega)]
      have h17 : ∀ q, mI md (X + 17) q = mI m (X + 17) q := fun q => by
        rw [hAd.2.2.2.2 _ _ (by omega), hAm1.2.2.2.2 _ _ (by omega)]
      obtain ⟨mk2, hmk2⟩ : ∃ mk2 : Nat → Nat, mk2 = fun q => if q < j then mk q else mk (q + 1) := ⟨_, rfl⟩
      have hm2l : ∀ q, q < j → mk2 q = mk q := fun q z => by rw [hmk2]; exact if_pos z
      have hm2r : ∀ q, j ≤ q → mk2 q = mk (q + 1) := fun q z => by rw [hmk2]; exact if_neg (by omega)
      have hne : ∀ q, q < nM - 1 → mk2 q ≠ k := fun q hq z => by
        by_cases e : q < j
        · rw [hm2l q e] at z
          have := l4.2.2 q j (by omega) hj (by rw [z, hmj])
          omega
        · rw [hm2r q (by omega)] at z
          have := l4.2.2 (q + 1) j (by omega) hj (by rw [z, hmj])
          omega
      refine Inv_key (v2 := va_up v k (-1)) (nM2 := nM - 1) (mk2 := mk2) hL hw hIS hIL hIG hID hk hA2 (fun b j q => Or.inr (by omega)) (fun a ha => ?_) (by rw [va_s]; exact Or.inl rfl) (fun j hj => va_n hj) ⟨⟨?_, ?_⟩, fun i hi => ?_⟩ ⟨by omega, fun q hq => ?_, fun p q hp hq z => ?_⟩ (fun a ha => ?_) ?_ (fun s hs => ⟨?_, t5 s hs⟩) t4
      · by_cases e : a = k
        · subst e
          rw [va_s]
          refine ⟨?_, t3⟩
          rw [hv2 _ _ (by omega), b2.2.2.2.2 _ _ (by omega), hAd.2.2.2.2 _ _ (by omega), hm1, mI_setI, if_pos ⟨rfl, rfl⟩]
        · rw [va_n e, hv2 _ _ (by omega), hstq _ _ (by omega), hv2 _ _ (by omega), hstq _ _ (by omega)]
          exact l1 a ha
      · rw [hv2 _ _ (by omega)]; exact hmq2
      · rw [hv2 _ _ (by omega)]; exact hmq5
      · rw [hv2 _ _ (by omega), hv2 _ _ (by omega), hv2 _ _ (by omega), va_n (hne i hi), h34 _ _ (Or.inl rfl), h34 _ _ (Or.inr rfl)]
        by_cases e : i < j
        · rw [hm2l i e, a2.2.2.2.2 _ _ (by omega), a2.2.2.2.2 _ _ (by omega), b2.2.2.2.2 _ _ (by omega), h17]
          exact l3.2 i (by omega)
        · rw [hm2r i (by omega), (a3 i (by omega) (by omega)).1, (a3 i (by omega) (by omega)).2, b3 i (by omega) hi, h17]
          exact l3.2 (i + 1) (by omega)
      · by_cases e : q < j
        · rw [hm2l q e]; exact l4.2.1 q (by omega)
        · rw [hm2r q (by omega)]; exact l4.2.1 (q + 1) (by omega)
      · by_cases e : p < j
        · by_cases e2 : q < j
          · rw [hm2l p e, hm2l q e2] at z
            exact l4.2.2 p q (by omega) (by omega) z
          · rw [hm2l p e, hm2r q (by omega)] at z
            have := l4.2.2 p (q + 1) (by omega) (by omega) z
            omega
        · by_cases e2 : q < j
          · rw [hm2r p (by omega), hm2l q e2] at z
            have := l4.2.2 (p + 1) q (by omega) (by omega) z
            omega
          · rw [hm2r p (by omega), hm2r q (by omega)] at z
            have := l4.2.2 (p + 1) (q + 1) (by omega) (by omega) z
            omega
      · constructor
        · rintro ⟨q, hq, z⟩
          by_cases e : q < j
          · rw [hm2l q e] at z; exact ⟨q, by omega, z⟩
          · rw [hm2r q (by omega)] at z; exact ⟨q + 1, by omega, z⟩
        · rintro ⟨q, hq, z⟩
          by_cases e : q < j
          · exact ⟨q, by omega, by rw [hm2l q e]; exact z⟩
          · by_cases e2 : q = j
            · rw [e2, hmj] at z; exact absurd z.symm ha
            · exact ⟨q - 1, by omega, by rw [hm2r _ (by omega), show q - 1 + 1 = q by omega]; exact z⟩
      · rw [va_s]
        exact ⟨fun q => absurd rfl q, fun ⟨j, hj, q⟩ => absurd q (hne j hj)⟩
      · have hs9 := hsa s hs
        refine SgL_ag hA2 (SgL_c (l5 s hs).1 (fun i hi => (killed_n (fun q1 q2 => ?_)).symm)) ⟨by omega, fun k => by omega⟩
        have := l7.2.1 s i hs hi q1
        rw [q2, ← hmj, l7.2.2.2 j hj] at this
        cases this
end OPP3

section OPP2
variable {X c : Nat} {m : Mem}
theorem val_spec (b : Int32) (m : Mem) : (∃ u, u < 1000 ∧ b = nI u ∧ ¬ b < 0 ∧ b < 1000 ∧ f_X4_in b 0 999 m = some (1, m)) ∨ ((b < 0 ∨ ¬ b < 1000) ∧ f_X4_in b 0 999 m = some (0, m)) := by
  rcases in_spec b (lo := 0) (hi := 999) 0 1000 (by decide) (by decide) (by decide) m with ⟨u, -, hu, rfl, e⟩ | ⟨hn, e⟩
  · exact Or.inl ⟨u, hu, rfl, nI_lt0 (by omega), (nI_ltI (a := u) (b := 1000) (by omega) (by decide)).mpr hu, e⟩
  · refine Or.inr ⟨?_, e⟩
    by_cases hb : b < 0
    · exact Or.inl hb
    · obtain ⟨j, hj, rfl⟩ := nI_of hb
      refine Or.inr (fun q => ?_)
      have := (nI_ltI (a := j) (b := 1000) hj (by decide)).mp q
      exact hn j (by omega) this rfl
theorem key_spec (a : Int32) (m m2 : Mem) : (∃ k, k < 100 ∧ a = nI k ∧ f_X3_isKey a m = some (1, m) ∧ f_X4_in a 0 99 m2 = some (1, m2)) ∨ (f_X3_isKey a m = some (0, m) ∧ f_X4_in a 0 99 m2 = some (0, m2)) := by
  rcases isKey_spec a m with ⟨k, hk, rfl, e⟩ | ⟨hn, e⟩
  · rcases in_spec (nI k) (lo := 0) (hi := 99) 0 100 (by decide) (by decide) (by decide) m2 with ⟨u, -, hu, q, e2⟩ | ⟨hn, e2⟩
    · exact Or.inl ⟨k, hk, rfl, e, e2⟩
    · exact absurd rfl (hn k (by omega) hk)
  · rcases in_spec a (lo := 0) (hi := 99) 0 100 (by decide) (by decide) (by decide) m2 with ⟨u, -, hu, q, e2⟩ | ⟨-, e2⟩
    · exact absurd q (hn u hu)
    · exact Or.inr ⟨e, e2⟩
theorem kill_all {nS nn k : Nat} {us : Nat → Bool} {od sa sz num ti : Nat → Nat} {rk : Nat → Nat → Nat} {rv : Nat → Nat → Int32} {lv : Nat → Nat → Bool} (hL : SL X m) (hIS : IS X c nS nn us od sa sz num ti rk rv m) (hlv : RLv X us sa sz lv m) (hk : k < 100) : ∃ m2, f_X3_killRowOf X (nI k) m = some ((), m2) ∧ Ag (killS us sa) m m2 ∧ ∀ s, us s = true → SgL m2 (sa s) (sz s) (killed (lv s) (rk s) k) := by
  obtain ⟨s1, s2, s3, s4, s5, -⟩ := hIS
  obtain ⟨r, m2, e1, e2, e3⟩ := killRow_spec s3 s4 s5 hk nS 2100 0 m lv (by omega) (by have := s3.1; omega) hL s1.1.1 (fun p hp => (s1.2.1 p hp).1) (fun s hs => (s2 s hs).1) (fun s hs => (hlv s hs).1) (fun q i hq => absurd hq (by omega))
  refine ⟨m2, ?_, e2, e3⟩
  unfold f_X3_killRowOf
  rw [b_eq (show f_X3_killRowOf_L2 2100 X (nI k) 0 m = _ from e1)]; rfl
theorem killS_st {us : Nat → Bool} {sa : Nat → Nat} (hsa : ∀ s, us s = true → X + 37 ≤ sa s) {b j : Nat} (hb : b < X + 37) : ¬ killS us sa b j := fun ⟨s, hs, q⟩ => by
  have := hsa s hs
  omega
theorem SgL_ag {S : Nat → Nat → Prop} {m m2 : Mem} {a sz : Nat} {lv : Nat → Bool} (h : Ag S m m2) (g : SgL m a sz lv) (s : ¬ S a 7 ∧ ∀ k, ¬ S (a + 3) k) : SgL m2 a sz lv := ⟨by rw [h.2.2.2.2 _ _ s.1]; exact g.1, fun i hi => by rw [h.2.2.2.2 _ _ (s.2 i)]; exact g.2 i hi⟩
theorem op_put (h : Inv X c m) (a b : Int32) : ∃ r m1 m2, cl 3 X (f_X3_put X a b) m = some (r, m1) ∧ cl 4 (X + 12) (f_X4_put (X + 12) a b) m1 = some (r, m2) ∧ Inv X (c + 1) m2 := by
  have hI := h
  have hL := h.1
  obtain ⟨-, hw, nS, nn, us, od, sa, sz, num, ti, rk, rv, lv, v, nM, mk, loc, tt, gn, ca, hIS, hIL, hIG, hID⟩ := h
  obtain ⟨l1, l2, l3, l4, l5, l6, l7⟩ := id hIL
  have hsa := (IS_sa hIS).1
  have h6 := l4.1
  have hL0 : SL X (setI m (X + 12) 0 0) := hL
  rcases key_spec a m (setI m (X + 12) 0 0) with ⟨k, hk, rfl, ek, -⟩ | ⟨ek, eq⟩
  rotate_left
  · refine op_q hI ⟨-1, ?_, ?_⟩
    · unfold f_X3_put
      rw [b_eq ek, i_t (by rfl)]; rfl
    · unfold f_X4_put
      rw [q_pI12 hL, b_eq eq, i_t (by rfl)]; rfl
  have eq : ∀ m2, f_X4_in (nI k) 0 99 m2 = some (1, m2) := fun m2 => by
    rcases key_spec (nI k) m m2 with ⟨-, -, -, -, e⟩ | ⟨e, -⟩
    · exact e
    · rw [ek] at e; exact absurd (congrArg Prod.fst (Option.some.inj e)) n10
  rcases val_spec b (setI m (X + 12) 0 0) with ⟨u, hu, hbu, hb1, hb2, -⟩ | ⟨hb, eb⟩
  rotate_left
  · refine op_q hI ⟨-2, ?_, ?_⟩
    · unfold f_X3_put
      rw [b_eq ek, i_f n10]
      rcases hb with hb | hb
      · rw [i_t hb]; rfl
      · by_cases h0 : b < 0
        · rw [i_t h0]; rfl
        · rw [i_f h0, i_f hb]; rfl
    · unfold f_X4_put
      rw [q_pI12 hL, b_eq (eq _), i_f n10, b_eq eb, i_t (by rfl)]; rfl
  have eb : ∀ m2, f_X4_in b 0 999 m2 = some (1, m2) := fun m2 => by
    rcases val_spec b m2 with ⟨-, -, -, -, -, e⟩ | ⟨e, -⟩
    · exact e
    · rcases e with e | e
      · exact absurd e hb1
      · exact absurd hb2 e
  have hfind := find_spec (sk2 hL) (sp2_0 hL) (sk3 hL) (sn3 hL) l3.1.1 h6 (nI k)
  obtain ⟨r, er, hr⟩ := hfind
  rcases hr with ⟨rfl, hr⟩ | ⟨j, hj, rfl, hr⟩
  · have hno : ∀ j, j < nM → mk j ≠ k := fun j hj e => hr j hj (by rw [(l3.2 j hj).1, e])
    by_cases hfull : nM = 6
    · refine op_q hI ⟨-4, ?_, ?_⟩
      · unfold f_X3_put
        rw [b_eq ek, i_f n10, i_f hb1, i_t hb2, q_gN0_1 hL, q_cl2 hL, b_eq er, i_t (by rfl), q_gN0_1 hL, q_gI2 hL, l3.1.1, hfull, i_t (by rfl)]; rfl
      · unfold f_X4_put
        rcases memAt_spec hL0 (nM := nM) (mk := mk) (by rw [mI_setI, if_neg (by omega)]; exact l3.1.2) h6 (fun j hj => by rw [mI_setI, if_neg (by omega)]; exact (l3.2 j hj).2.1) l4 hk with ⟨-, e⟩ | ⟨j, hj, q, -⟩
        · rw [q_pI12 hL, b_eq (eq _), i_f n10, b_eq (eb _), i_f n10, q_cl12 hL0, b_eq e, i_f (by decide), q_gI12 hL0, mI_setI, if_neg (by omega), l3.1.2, hfull, i_t (by rfl)]; rfl
        · exact absurd q (hno j hj)
    · obtain ⟨ma, k1, k2, k3⟩ := kill_all hL hIS l5 hk
      have hLa : SL X ma := k2.SL hL
      have hst : ∀ b j, b < X + 37 → mI ma b j = mI m b j := fun b j hb => k2.2.2.2.2 _ _ (killS_st hsa hb)
      obtain ⟨m1, hm1⟩ : ∃ m1, m1 = setI (setI (setI (setI ma (X + 3) nM (nI k)) (X + 4) nM b) (X + 2) 2 (nI (nM + 1))) (X + 1) k b := ⟨_, rfl⟩
      have hLb : SL X (setI ma (X + 3) nM (nI k)) := hLa
      have hLc : SL X (setI (setI ma (X + 3) nM (nI k)) (X + 4) nM b) := hLa
      have hLd : SL X (setI (setI (setI ma (X + 3) nM (nI k)) (X + 4) nM b) (X + 2) 2 (nI (nM + 1))) := hLa
      have hL1 : SL X m1 := by rw [hm1]; exact hLa
      have hAm1 : Ag (fun b j => (b = X + 3 ∧ j = nM) ∨ (b = X + 4 ∧ j = nM) ∨ (b = X + 2 ∧ j = 2) ∨ (b = X + 1 ∧ j = k)) ma m1 := by
        rw [hm1]
        exact (((Ag.setI.trans Ag.setI).trans Ag.setI).trans Ag.setI).mono (fun b j q => by omega)
      obtain ⟨mq, hmq⟩ : ∃ mq, mq = setI (setI (setI m1 (X + 12) 0 0) (X + 17) nM (nI k)) (X + 12) 5 (nI (nM + 1)) := ⟨_, rfl⟩
      have hLe : SL X (setI m1 (X + 12) 0 0) := hL1
      have hLf : SL X (setI (setI m1 (X + 12) 0 0) (X + 17) nM (nI k)) := hL1
      have hLq : SL X mq := by rw [hmq]; exact hL1
      have hAq : Ag (fun b j => (b = X + 12 ∧ j = 0) ∨ (b = X + 17 ∧ j = nM) ∨ (b = X + 12 ∧ j = 5)) m1 mq := by
        rw [hmq]
        exact ((Ag.setI.trans Ag.setI).trans Ag.setI).mono (fun b j q => by omega)
      have hstq : ∀ b j, b < X + 37 → ¬ (((b = X + 3 ∧ j = nM) ∨ (b = X + 4 ∧ j = nM) ∨ (b = X + 2 ∧ j = 2) ∨ (b = X + 1 ∧ j = k)) ∨ ((b = X + 12 ∧ j = 0) ∨ (b = X + 17 ∧ j = nM) ∨ (b = X + 12 ∧ j = 5))) → mI mq b j = mI m b j := fun b j hb q => by
        rw [hAq.2.2.2.2 _ _ (by omega), hAm1.2.2.2.2 _ _ (by omega), hst b j hb]
      have hloq : RLo X loc tt mq := fun a ha => by
        rw [hstq _ _ (by omega) (by omega), hstq _ _ (by omega) (by omega), hstq _ _ (by omega) (by omega)]
        exact l6 a ha
      obtain ⟨m2, t1, t2, t3, t4, t5⟩ := tail_spec hLq hloq hIS.2.2.2.1 l7 (fun s hs i hi => by
        rw [hstq _ _ (by omega) (by omega)]
        exact (l5 s hs).2 i hi) hk b
      have hA2 := ((k2.trans hAm1).trans hAq).trans t2
      refine ⟨nI (nM + 1), m1, m2, ?_, ?_, ?_⟩
      · rw [q_ce0 hL]
        unfold f_X3_put
        rw [b_eq ek, i_f n10, i_f hb1, i_t hb2, q_gN0_1 hL, q_cl2 hL, b_eq er, i_t (by rfl), q_gN0_1 hL, q_gI2 hL, l3.1.1, i_f (show ¬ nI nM = (6 : Int32) from fun q => by
          have := (nI_eq (a := nM) (b := 6) (by omega) (by decide)).mp q
          omega), i_t (by rfl), q_cl0 hL, b_eq k1, q_gN0_1 hLa, q_cl2 hLa, b_eq (r := ()) (m' := setI (setI (setI ma (X + 3) nM (nI k)) (X + 4) nM b) (X + 2) 2 (nI (nM + 1)))]
        · rw [q_gN0_0 hLd, q_sI1 hLd hk, ← hm1, q_gN0_1 hL1, q_gI2 hL1, hm1, mI_setI, if_neg (by omega), mI_setI, if_pos ⟨rfl, rfl⟩]; rfl
        · unfold f_X0_append
          rw [q_gN2_0 hLa, q_gI2 hLa, hst _ _ (by omega), l3.1.1, q_sI3 hLa (by omega), q_gN2_1 hLb, q_gI2 hLb, mI_setI, if_neg (by omega), hst _ _ (by omega), l3.1.1, q_sI4 hLb (by omega), q_gI2 hLc, mI_setI, if_neg (by omega), mI_setI, if_neg (by omega), hst _ _ (by omega), l3.1.1, nI_1, q_pI2 hLc]; rfl
      · rw [q_ce12 hL1]
        unfold f_X4_put
        have g5 : mI (setI m1 (X + 12) 0 0) (X + 12) 5 = nI nM := by
          rw [mI_setI, if_neg (by omega), hAm1.2.2.2.2 _ _ (by omega), hst _ _ (by omega)]; exact l3.1.2
        rcases memAt_spec hLe (nM := nM) (mk := mk) g5 h6 (fun j hj => by rw [mI_setI, if_neg (by omega), hAm1.2.2.2.2 _ _ (by omega), hst _ _ (by omega)]; exact (l3.2 j hj).2.1) l4 hk with ⟨-, e⟩ | ⟨j, hj, q, -⟩
        · rw [q_pI12 hL1, b_eq (eq _), i_f n10, b_eq (eb _), i_f n10, q_cl12 hLe, b_eq e, i_f (by decide), q_gI12 hLe, g5, i_f (show ¬ nI nM = (6 : Int32) from fun q => by
            have := (nI_eq (a := nM) (b := 6) (by omega) (by decide)).mp q
            omega), q_gN12_6 hLe, q_gI12 hLe, g5, q_sI17 hLe (by omega), q_gI12 hLf, mI_setI, if_neg (by omega), g5, nI_1, q_pI12 hLf, ← hmq, t1, q_gI12 (t2.SL hLq), t2.2.2.2.2 _ _ (by omega), hmq, mI_setI, if_pos ⟨rfl, rfl⟩]; rfl
        · exact absurd q (hno j hj)
      · have hv2 : ∀ b j, b < X + 37 → ¬ (b = X + 25 ∨ (b = X + 15 ∧ j = k) ∨ (b = X + 13 ∧ j = k) ∨ (b = X + 14 ∧ j = k)) → mI m2 b j = mI mq b j := fun b j hb q => t2.2.2.2.2 _ _ q
        refine Inv_key (v2 := va_up v k b) (nM2 := nM + 1) (mk2 := va_up mk nM k) hL hw hIS hIL hIG hID hk hA2 (fun b j q => ?_) (fun a ha => ?_) (by rw [va_s, hbu]; exact Or.inr ⟨u, hu, rfl⟩) (fun j hj => va_n hj) ⟨⟨?_, ?_⟩, fun j hj => ?_⟩ ⟨by omega, fun j hj => ?_, fun i j hi hj q => ?_⟩ (fun a ha => ?_) ?_ (fun s hs => ⟨?_, t5 s hs⟩) t4
        · rcases q with ((q | q) | q) | q
          · exact Or.inl q
          · exact Or.inr (by omega)
          · exact Or.inr (by omega)
          · exact Or.inr (by omega)
        · by_cases e : a = k
          · subst e
            rw [va_s]
            refine ⟨?_, t3⟩
            rw [hv2 _ _ (by omega) (by omega), hAq.2.2.2.2 _ _ (by omega), hm1, mI_setI, if_pos ⟨rfl, rfl⟩]
          · rw [va_n e, hv2 _ _ (by omega) (by omega), hstq _ _ (by omega) (by omega), hv2 _ _ (by omega) (by omega), hstq _ _ (by omega) (by omega)]
            exact l1 a ha
        · rw [hv2 _ _ (by omega) (by omega), hAq.2.2.2.2 _ _ (by omega), hm1, mI_setI, if_neg (by omega), mI_setI, if_pos ⟨rfl, rfl⟩]
        · rw [hv2 _ _ (by omega) (by omega), hmq, mI_setI, if_pos ⟨rfl, rfl⟩]
        · rw [hv2 _ _ (by omega) (by omega), hv2 _ _ (by omega) (by omega), hv2 _ _ (by omega) (by omega)]
          by_cases e : j = nM
          · subst e
            rw [va_s, va_s]
            refine ⟨?_, ?_, ?_⟩
            · rw [hAq.2.2.2.2 _ _ (by omega), hm1, mI_setI, if_neg (by omega), mI_setI, if_neg (by omega), mI_setI, if_neg (by omega), mI_setI, if_pos ⟨rfl, rfl⟩]
            · rw [hmq, mI_setI, if_neg (by omega), mI_setI, if_pos ⟨rfl, rfl⟩]
            · rw [hAq.2.2.2.2 _ _ (by omega), hm1, mI_setI, if_neg (by omega), mI_setI, if_neg (by omega), mI_setI, if_pos ⟨rfl, rfl⟩]
          · rw [va_n e, va_n (hno j (by omega)), hstq _ _ (by omega) (by omega), hstq _ _ (by omega) (by omega), hstq _ _ (by omega) (by omega)]
            exact l3.2 j (by omega)
        · by_cases e : j = nM
          · rw [e, va_s]; exact hk
          · rw [va_n e]; exact l4.2.1 j (by omega)
        · by_cases e : i = nM
          · by_cases e2 : j = nM
            · omega
            · rw [e, va_s, va_n e2] at q
              exact absurd q.symm (hno j (by omega))
          · by_cases e2 : j = nM
            · rw [e2, va_s, va_n e] at q
              exact absurd q (hno i (by omega))
            · rw [va_n e, va_n e2] at q
              exact l4.2.2 i j (by omega) (by omega) q
        · constructor
          · rintro ⟨j, hj, q⟩
            by_cases e : j = nM
            · rw [e, va_s] at q; exact absurd q.symm ha
            · rw [va_n e] at q; exact ⟨j, by omega, q⟩
          · rintro ⟨j, hj, q⟩
            exact ⟨j, by omega, by rw [va_n (by omega)]; exact q⟩
        · rw [va_s, hbu]
          exact ⟨fun _ => ⟨nM, by omega, va_s⟩, fun _ => nI_m1 (by omega)⟩
        · have hs9 := hsa s hs
          exact SgL_ag ((hAm1.trans hAq).trans t2) (k3 s hs) ⟨by omega, fun k => by omega⟩
  · have hmj : mk j = k := by
      have := (l3.2 j hj).1
      rw [hr] at this
      exact ((nI_eq (by omega) (by have := l4.2.1 j hj; omega)).mp this).symm
    obtain ⟨m1, hm1⟩ : ∃ m1, m1 = setI (setI m (X + 4) j b) (X + 1) k b := ⟨_, rfl⟩
    have hLb : SL X (setI m (X + 4) j b) := hL
    have hL1 : SL X m1 := by rw [hm1]; exact hL
    have hAm1 : Ag (fun b i => (b = X + 4 ∧ i = j) ∨ (b = X + 1 ∧ i = k)) m m1 := by
      rw [hm1]
      exact Ag.setI.trans Ag.setI
    have hLq : SL X (setI m1 (X + 12) 0 0) := hL1
    have hAq : Ag (fun b j => (b = X + 12 ∧ j = 0)) m1 (setI m1 (X + 12) 0 0) := Ag.setI
    obtain ⟨mq, hmq⟩ : ∃ mq, mq = setI m1 (X + 12) 0 0 := ⟨_, rfl⟩
    rw [← hmq] at hLq hAq
    have hstq : ∀ b i, ¬ (((b = X + 4 ∧ i = j) ∨ (b = X + 1 ∧ i = k)) ∨ (b = X + 12 ∧ i = 0)) → mI mq b i = mI m b i := fun b i q => by
      rw [hAq.2.2.2.2 _ _ (by omega), hAm1.2.2.2.2 _ _ (by omega)]
    have hloq : RLo X loc tt mq := fun a ha => by
      rw [hstq _ _ (by omega), hstq _ _ (by omega), hstq _ _ (by omega)]
      exact l6 a ha
    obtain ⟨m2, t1, t2, t3, t4, t5⟩ := tail_spec hLq hloq hIS.2.2.2.1 l7 (fun s hs i hi => by
      rw [hstq _ _ (by omega)]
      exact (l5 s hs).2 i hi) hk b
    have hA2 := (hAm1.trans hAq).trans t2
    refine ⟨nI nM, m1, m2, ?_, ?_, ?_⟩
    · rw [q_ce0 hL]
      unfold f_X3_put
      rw [b_eq ek, i_f n10, i_f hb1, i_t hb2, q_gN0_1 hL, q_cl2 hL, b_eq er, i_f (nI_m1 (by omega)), i_f (nI_m1 (by omega)), q_gN0_1 hL, q_gN2_1 hL, q_sI4 hL (by omega), q_gN0_0 hLb, q_sI1 hLb hk, ← hm1, q_gN0_1 hL1, q_gI2 hL1, hAm1.2.2.2.2 _ _ (by omega), l3.1.1]; rfl
    · rw [q_ce12 hL1]
      unfold f_X4_put
      rw [q_pI12 hL1, ← hmq]
      rcases memAt_spec hLq (nM := nM) (mk := mk) (by rw [hstq _ _ (by omega)]; exact l3.1.2) h6 (fun j hj => by rw [hstq _ _ (by omega)]; exact (l3.2 j hj).2.1) l4 hk with ⟨q, -⟩ | ⟨i, hi, q, e⟩
      · exact absurd hmj (q j hj)
      · rw [b_eq (eq _), i_f n10, b_eq (eb _), i_f n10, q_cl12 hLq, b_eq e, i_t (nI_pos' (by omega)), t1, q_gI12 (t2.SL hLq), t2.2.2.2.2 _ _ (by omega), hstq _ _ (by omega), l3.1.2]; rfl
    · have hv2 : ∀ b j, ¬ (b = X + 25 ∨ (b = X + 15 ∧ j = k) ∨ (b = X + 13 ∧ j = k) ∨ (b = X + 14 ∧ j = k)) → mI m2 b j = mI mq b j := fun b j q => t2.2.2.2.2 _ _ q
      refine Inv_key (v2 := va_up v k b) (nM2 := nM) (mk2 := mk) hL hw hIS hIL hIG hID hk hA2 (fun b j q => Or.inr (by omega)) (fun a ha => ?_) (by rw [va_s, hbu]; exact Or.inr ⟨u, hu, rfl⟩) (fun j hj => va_n hj) ⟨⟨?_, ?_⟩, fun i hi => ?_⟩ l4 (fun a ha => Iff.rfl) ?_ (fun s hs => ⟨?_, t5 s hs⟩) t4
      · by_cases e : a = k
        · subst e
          rw [va_s]
          refine ⟨?_, t3⟩
          rw [hv2 _ _ (by omega), hAq.2.2.2.2 _ _ (by omega), hm1, mI_setI, if_pos ⟨rfl, rfl⟩]
        · rw [va_n e, hv2 _ _ (by omega), hstq _ _ (by omega), hv2 _ _ (by omega), hstq _ _ (by omega)]
          exact l1 a ha
      · rw [hv2 _ _ (by omega), hstq _ _ (by omega)]; exact l3.1.1
      · rw [hv2 _ _ (by omega), hstq _ _ (by omega)]; exact l3.1.2
      · rw [hv2 _ _ (by omega), hv2 _ _ (by omega), hv2 _ _ (by omega), hstq _ _ (by omega), hstq _ _ (by omega)]
        refine ⟨(l3.2 i hi).1, (l3.2 i hi).2.1, ?_⟩
        by_cases e : i = j
        · subst e
          rw [hmj, va_s, hAq.2.2.2.2 _ _ (by omega), hm1, mI_setI, if_neg (by omega), mI_setI, if_pos ⟨rfl, rfl⟩]
        · rw [va_n (fun q => e (l4.2.2 i j hi hj (by rw [q, hmj]))), hstq _ _ (by omega)]
          exact (l3.2 i hi).2.2
      · rw [va_s, hbu]
        exact ⟨fun _ => ⟨j, hj, hmj⟩, fun _ => nI_m1 (by omega)⟩
      · have hs9 := hsa s hs
        refine SgL_ag hA2 (SgL_c (l5 s hs).1 (fun i hi => (killed_n (fun q1 q2 => ?_)).symm)) ⟨by omega, fun k => by omega⟩
        have := l7.2.1 s i hs hi q1
        rw [q2, ← hmj, l7.2.2.2 j hj] at this
        cases this
end OPP2

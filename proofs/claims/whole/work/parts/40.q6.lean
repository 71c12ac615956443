/-! share, moved, count -/
theorem Inv_reS {X c n : Nat} {m : Mem} (h : Inv X c m) (hn : mS m ≤ n) : Inv X c (reS m n) := by
  obtain ⟨h1, h2, nS, nn, us, od, sa, sz, num, ti, rk, rv, lv, v, nM, mk, loc, tt, gn, ca, ⟨s1, s2, s3, s4, s5, s6⟩, h4, ⟨gp, gt, gw, gl, ga, gg, wk, wi, nk, nv, nt, g1, g2⟩, ⟨dn, da, ea, dm, er, dg, d1, d2⟩⟩ := h
  refine ⟨SL_reS h1 hn, h2, nS, nn, us, od, sa, sz, num, ti, rk, rv, lv, v, nM, mk, loc, tt, gn, ca, ⟨s1, s2, s3, s4, ⟨fun s hs => ⟨(s5.1 s hs).1, Nat.le_trans (s5.1 s hs).2 hn⟩, s5.2⟩, s6⟩, h4, ⟨gp, gt, gw, gl, ga, gg, wk, wi, nk, nv, nt, g1, g2.1, ?_⟩, ⟨dn, da, ea, dm, er, dg, d1, d2.1, fun k hk => ?_, d2.2.2.1, fun q => ?_⟩⟩
  · rcases g2.2 with g | ⟨e1, e2, ⟨e3, e4, e5⟩, e6⟩
    · exact Or.inl g
    · exact Or.inr ⟨e1, e2, ⟨e3, Nat.le_trans e4 hn, e5⟩, e6⟩
  · obtain ⟨e1, e2, ⟨e3, e4, e5⟩, e6⟩ := d2.2.1 k hk
    exact ⟨e1, e2, ⟨e3, Nat.le_trans e4 hn, e5⟩, e6⟩
  · obtain ⟨e1, e2, e3⟩ := d2.2.2.2 q
    exact ⟨e1, Nat.le_trans e2 hn, e3⟩
theorem Inv_ag2 {X c : Nat} {m : Mem} {v : Int32} (h : Inv X c m) : Inv X c (setI m (X + 36) 0 v) := by
  obtain ⟨h1, h2, nS, nn, us, od, sa, sz, num, ti, rk, rv, lv, vv, nM, mk, loc, tt, gn, ca, hIS, hIL, hIG, hID⟩ := h
  have hA : Ag (fun b j => b = X + 36 ∧ j = 0) m (setI m (X + 36) 0 v) := Ag.setI
  have hsa := IS_sa hIS
  exact ⟨hA.SL h1, hA.IW h2 (fun k => ⟨by omega, by omega, by omega, fun w hw => by omega⟩), nS, nn, us, od, sa, sz, num, ti, rk, rv, lv, vv, nM, mk, loc, tt, gn, ca, hA.IS' hIS (fun b j hb => by omega) (fun k => ⟨⟨by omega, by omega⟩, by omega, by omega, by omega, by omega, by omega⟩) ⟨⟨by omega, by omega⟩, ⟨by omega, by omega, by omega⟩, by omega, by omega, by omega⟩, hA.IL' hIL hsa.1 (fun b j hb => by omega) (fun k => ⟨⟨by omega, by omega⟩, ⟨by omega, by omega, by omega⟩, by omega, by omega, by omega, by omega⟩) ⟨by omega, by omega⟩, hA.IG' hIG hsa.2 (fun b j hb => by omega) (fun k => ⟨by omega, by omega, by omega, by omega, by omega⟩) ⟨by omega, by omega, by omega, by omega⟩, hA.ID' hID (fun b j hb => by omega) (fun k => ⟨by omega, by omega, by omega⟩) (by omega)⟩
theorem op_share {X c : Nat} {m : Mem} (h : Inv X c m) (hc : c ≤ 4096) : ∃ k m1, f_L_share X (X + 36) m = some (k, m1) ∧ ∀ n, mS m1 ≤ n → ∃ b m2 m3, cl 4 (X + 12) (f_X4_share (X + 12)) (reS m1 n) = some (b, m2) ∧ cl 4 (X + 12) (f_X4_thrown (X + 12)) m2 = some (k, m3) ∧ (k = 0 → lI 9 (X + 36) 0 m3 = some (b, m3)) ∧ Inv X (c + 1) m3 := by
  obtain ⟨nS, ad, s, t, z, l, hx, hpq⟩ := inv_PPa h hc
  have hL := hx.1
  have hn := hx.2.2.1
  have hz : sumF z nS ≤ 100 * nS := sumF_le (fun k hk => (hx.2.2.2 k hk).2.2.2.2.2.1)
  have er := rows_x hx
  by_cases h0 : sumF z nS = 0
  · refine ⟨1, m, ?_, fun n hn => ?_⟩
    · unfold f_L_share f_X3_share
      rw [q_cl0 hL, b_eq (r := none) (m' := m)]
      · rfl
      · rw [q_cl0 hL, b_eq er, h0, i_t (by rfl)]; rfl
    · have hL3 : SL X (reS m n) := SL_reS hL hn
      have hq := hpq (setI (reS m n) (X + 12) 0 0) hL3 (fun b j h1 h2 => by rw [mI_setI, if_neg h2]; rfl)
      have hL4 : SL X (setI (reS m n) (X + 12) 0 0) := hL3
      refine ⟨0, setI (setI (reS m n) (X + 12) 0 0) (X + 12) 0 1, setI (setI (reS m n) (X + 12) 0 0) (X + 12) 0 1, ?_, ?_, fun q => absurd q n10, ?_⟩
      · rw [q_ce12 hL3]
        unfold f_X4_share
        rw [q_pI12 hL3, q_cl12 hL4, b_eq (all_q0 hq), h0, i_t (by rfl), q_pI12 hL4]; rfl
      · have hL5 : SL X (setI (setI (reS m n) (X + 12) 0 0) (X + 12) 0 1) := hL3
        rw [q_ce12 hL5]
        unfold f_X4_thrown
        rw [q_gI12 hL5, mI_setI, if_pos ⟨rfl, rfl⟩]; rfl
      · exact Ag.setI.Inv (fun b j q => q) (Inv_thr (Inv_reS h hn))
  · have nz : ¬ nI (sumF z nS) = 0 := nI_ne0 (by omega) (by omega)
    obtain ⟨v, hv⟩ : ∃ v : Int32, v = (1000 * nI (sumF l nS)) / nI (sumF z nS) := ⟨_, rfl⟩
    have e36 : bnd (sI 9 (X + 36) 0 v) (fun _ => (rt 0 : HM Int32)) m = some (0, setI m (X + 36) 0 v) := by
      have e := b_sI (β := Int32) (K := fun _ => rt 0) (v := v) (j := 0) (sk36 hL) (sn36 hL) (by decide) (by decide)
      exact e
    refine ⟨0, setI m (X + 36) 0 v, ?_, fun n hn => ?_⟩
    · unfold f_L_share
      rw [q_cl0 hL, b_eq (r := some v) (m' := m)]
      · exact e36
      · unfold f_X3_share
        have e0 : sumF (fun k => l (0 + k)) nS = sumF l nS := sumF_congr (fun k _ => by rw [Nat.zero_add])
        have el := living_x hx (p := 0) (n := nS) (by omega)
        rw [e0] at el
        rw [q_cl0 hL, b_eq er, i_f nz, q_gI0 hL, hx.2.1, q_cl0 hL, b_eq (show f_X3_livingFrom X 0 (nI nS) m = _ from el), b_dv nz, ← hv]; rfl
    · have hL3 : SL X (reS (setI m (X + 36) 0 v) n) := SL_reS (SL_setI hL) hn
      have hq := hpq (setI (reS (setI m (X + 36) 0 v) n) (X + 12) 0 0) hL3 (fun b j h1 h2 => by
        rw [mI_setI, if_neg h2]
        show mI (setI m (X + 36) 0 v) b j = mI m b j
        rw [mI_setI, if_neg (by omega)])
      have hL4 : SL X (setI (reS (setI m (X + 36) 0 v) n) (X + 12) 0 0) := hL3
      refine ⟨v, setI (reS (setI m (X + 36) 0 v) n) (X + 12) 0 0, setI (reS (setI m (X + 36) 0 v) n) (X + 12) 0 0, ?_, ?_, fun _ => ?_, ?_⟩
      · rw [q_ce12 hL3]
        unfold f_X4_share
        rw [q_pI12 hL3, q_cl12 hL4, b_eq (all_q0 hq), i_f nz, q_cl12 hL4, b_eq (all_q1 hq), b_dv nz, ← hv]; rfl
      · rw [q_ce12 hL4]
        unfold f_X4_thrown
        rw [q_gI12 hL4, mI_setI, if_pos ⟨rfl, rfl⟩]; rfl
      · have e := b_lI (β := Int32) (K := rt) (j := 0) (sk36 hL4) (sn36 hL4) (by decide) (by decide)
        have e2 : mI (setI (reS (setI m (X + 36) 0 v) n) (X + 12) 0 0) (X + 36) 0 = v := by
          rw [mI_setI, if_neg (by omega)]
          show mI (setI m (X + 36) 0 v) (X + 36) 0 = v
          rw [mI_setI, if_pos ⟨rfl, rfl⟩]
        unfold lI
        rw [sn36 hL4, if_pos ⟨sk36 hL4, by decide⟩]
        show some (mI _ (X + 36) 0, _) = _
        rw [e2]
      · exact Inv_thr (Inv_reS (Inv_ag2 h) hn)
section MV
variable {X c : Nat} {m : Mem}
theorem source_x {da dn : Nat} {ea dm : Nat → Nat} (h1 : mK m da = 1 ∧ mR m da 1 = some (da + 1) ∧ mK m (da + 1) = 7 ∧ mN m (da + 1) = dn) (hd : dn ≤ 6) (he : ∀ k, k < dn → mR m (da + 1) k = some (ea k) ∧ mK m (ea k) = 2 ∧ mI m (ea k) 0 = nI (dm k)) (a : Int32) : (∃ k, k < dn ∧ a = nI (dm k) ∧ (∀ j, j < k → a ≠ nI (dm j)) ∧ f_X1_sourceOf da a m = some (some (ea k), m)) ∨ ((∀ k, k < dn → a ≠ nI (dm k)) ∧ f_X1_sourceOf da a m = some (none, m)) := by
  obtain ⟨k1, k2, k3, k4⟩ := h1
  have L : ∀ d f k, k + d = dn → d < f → (∀ j, j < k → a ≠ nI (dm j)) → (∃ r, r < dn ∧ a = nI (dm r) ∧ (∀ j, j < r → a ≠ nI (dm j)) ∧ f_X1_sourceOf_L2 f da a (nI k) m = some (some (ea r), m)) ∨ ((∀ j, j < dn → a ≠ nI (dm j)) ∧ f_X1_sourceOf_L2 f da a (nI k) m = some (none, m)) := by
    intro d
    induction d with
    | zero =>
      intro f k hk hf hq
      obtain ⟨f, rfl⟩ : ∃ g, f = g + 1 := ⟨f - 1, by omega⟩
      have : k = dn := by omega
      subst this
      refine Or.inr ⟨hq, ?_⟩
      unfold f_X1_sourceOf_L2
      rw [b_gN k1 k2, b_ln k3 k4, i_t (leL (Nat.le_refl _) (by omega))]
      rfl
    | succ d ih =>
      intro f k hk hf hq
      obtain ⟨f, rfl⟩ : ∃ g, f = g + 1 := ⟨f - 1, by omega⟩
      obtain ⟨e1, e2, e3⟩ := he k (by omega)
      unfold f_X1_sourceOf_L2
      rw [b_gN k1 k2, b_ln k3 k4, i_f (leN (by omega) (by omega)), b_gN k1 k2, b_lR k3 k4 (by omega) (by omega) e1, b_gI e2, e3]
      by_cases hc : nI (dm k) = a
      · refine Or.inl ⟨k, by omega, hc.symm, hq, ?_⟩
        rw [i_t hc, b_gN k1 k2, b_lR k3 k4 (by omega) (by omega) e1]; rfl
      · rw [i_f hc, nI_1]
        exact ih f (k + 1) (by omega) (by omega) (fun j hj => by
          by_cases g : j < k
          · exact hq j g
          · rw [show j = k by omega]; exact fun z => hc z.symm)
  exact L dn 2100 0 (by omega) (by omega) (fun j hj => absurd hj (by omega))
theorem hasRow_x {a sz : Nat} (h1 : mK m a = 2) (h2 : mI m a 2 = nI sz) (hs : sz ≤ 100) (b : Int32) : (∃ i, i < sz ∧ b = nI i ∧ f_X2_hasRow a b m = some (1, m)) ∨ ((∀ i, i < sz → b ≠ nI i) ∧ f_X2_hasRow a b m = some (0, m)) := by
  unfold f_X2_hasRow
  rcases pk_ix b (n := sz) (by omega) with h | h | ⟨i, hi, rfl⟩
  · exact Or.inr ⟨fun k hk => nI_neg h k (by omega), by rw [i_t h]; rfl⟩
  · refine Or.inr ⟨fun k hk => nI_big (by omega) h k hk, ?_⟩
    by_cases h0 : b < 0
    · rw [i_t h0]; rfl
    · rw [i_f h0, b_gI h1, h2, i_t h]; rfl
  · refine Or.inl ⟨i, hi, rfl, ?_⟩
    rw [i_f (nI_pos (by omega)), b_gI h1, h2, i_f (leN hi (by omega))]; rfl
theorem moved_none (hL : SL X m) {dn : Nat} {dm er : Nat → Nat} (hd : dn ≤ 6) (h28 : mI m (X + 12) 28 = nI dn) (he : ∀ k, k < dn → mI m (X + 31) k = nI (dm k) ∧ mI m (X + 32) k = nI (er k) ∧ er k ≤ 100) (a b : Int32) : ∀ d f k, k + d = dn → d < f → (∀ j, k ≤ j → j < dn → a ≠ nI (dm j) ∨ ∀ i, i < er j → b ≠ nI i) → f_X4_moved_L7 f (X + 12) a b (nI k) m = some (-1, m) := by
  intro d
  induction d with
  | zero =>
    intro f k hk hf hq
    obtain ⟨f, rfl⟩ : ∃ g, f = g + 1 := ⟨f - 1, by omega⟩
    have : k = dn := by omega
    subst this
    unfold f_X4_moved_L7
    rw [q_gI12 hL, h28, i_t (leL (Nat.le_refl _) (by omega))]
    rfl
  | succ d ih =>
    intro f k hk hf hq
    obtain ⟨f, rfl⟩ : ∃ g, f = g + 1 := ⟨f - 1, by omega⟩
    obtain ⟨e1, e2, e3⟩ := he k (by omega)
    have hi := ih f (k + 1) (by omega) (by omega) (fun j h1 h2 => hq j (by omega) h2)
    unfold f_X4_moved_L7
    rw [q_gI12 hL, h28, i_f (leN (by omega) (by omega)), q_gN12_29 hL, q_lI31 hL (by omega), e1, nI_1]
    by_cases hc : nI (dm k) = a
    · rw [i_t hc, q_gN12_30 hL, q_lI32 hL (by omega), e2]
      rcases in_spec b (lo := 0) (hi := nI (er k) - 1) 0 (er k) rfl (n1_toInt (by omega)) (by omega) m with ⟨i2, -, hi2, ei, e4⟩ | ⟨hi2, e4⟩
      · rcases hq k (Nat.le_refl _) (by omega) with q | q
        · exact absurd hc.symm q
        · exact absurd ei (q i2 hi2)
      · rw [b_eq e4, i_t (by rfl)]
        exact hi
    · rw [i_f hc]
      exact hi
theorem moved_hit (hL : SL X m) {dn k0 i : Nat} {dm er : Nat → Nat} {g : Int32} (hd : dn ≤ 6) (hk0 : k0 < dn) (h28 : mI m (X + 12) 28 = nI dn) (he : ∀ k, k < dn → mI m (X + 31) k = nI (dm k) ∧ mI m (X + 32) k = nI (er k) ∧ er k ≤ 100) (hi : i < er k0) (hg : mI m (X + 33) (100 * k0 + i) = g) {a : Int32} (ha : a = nI (dm k0)) (hj : ∀ j, j < k0 → a ≠ nI (dm j)) : ∀ d f k, k + d = k0 → d < f → f_X4_moved_L7 f (X + 12) a (nI i) (nI k) m = some (if 0 ≤ g then g else -3, m) := by
  intro d
  induction d with
  | zero =>
    intro f k hk hf
    obtain ⟨f, rfl⟩ : ∃ g, f = g + 1 := ⟨f - 1, by omega⟩
    have : k = k0 := by omega
    subst this
    obtain ⟨e1, e2, e3⟩ := he k hk0
    unfold f_X4_moved_L7
    rw [q_gI12 hL, h28, i_f (leN (by omega) (by omega)), q_gN12_29 hL, q_lI31 hL (by omega), e1, i_t ha.symm, q_gN12_30 hL, q_lI32 hL (by omega), e2]
    rcases in_spec (nI i) (lo := 0) (hi := nI (er k) - 1) 0 (er k) rfl (n1_toInt (by omega)) (by omega) m with ⟨i2, -, hi2, ei, e4⟩ | ⟨hi2, e4⟩
    · rw [b_eq e4, i_f n10, q_gN12_31 hL, nI100, q_lI33 hL (by omega), hg]
      by_cases c1 : 0 ≤ g
      · rw [i_t c1, if_pos c1, q_gN12_31 hL, q_lI33 hL (by omega), hg]; rfl
      · rw [i_f c1, if_neg c1]; rfl
    · exact absurd rfl (hi2 i (by omega) hi)
  | succ d ih =>
    intro f k hk hf
    obtain ⟨f, rfl⟩ : ∃ g, f = g + 1 := ⟨f - 1, by omega⟩
    obtain ⟨e1, e2, e3⟩ := he k (by omega)
    have hi' := ih f (k + 1) (by omega) (by omega)
    unfold f_X4_moved_L7
    rw [q_gI12 hL, h28, i_f (leN (by omega) (by omega)), q_gN12_29 hL, q_lI31 hL (by omega), e1, nI_1, i_f (fun z => hj k (by omega) z.symm)]
    exact hi'
theorem op_moved (h : Inv X c m) (hc : c ≤ 4096) (a b : Int32) : ∃ r m1 m2, cl 3 X (f_X3_moved X a b) m = some (r, m1) ∧ cl 4 (X + 12) (f_X4_moved (X + 12) a b) m1 = some (r, m2) ∧ Inv X (c + 1) m2 := by
  refine op_q h ?_
  have hL := h.1
  obtain ⟨-, -, nS, nn, us, od, sa, sz, num, ti, rk, rv, lv, v, nM, mk, loc, tt, gn, ca, -, -, -, ⟨dn, da, ea, dm, er, dg, ⟨d1, d2, d3⟩, ⟨w1, w2, w3, w4⟩⟩⟩ := h
  have hL2 : SL X (setI m (X + 12) 0 0) := hL
  have hb : ∀ a j, ¬ (a = X + 12 ∧ j = 0) → mI (setI m (X + 12) 0 0) a j = mI m a j := fun a j q => by rw [mI_setI, if_neg q]
  unfold f_X3_moved f_X4_moved
  rw [q_pI12 hL]
  have h28 : mI (setI m (X + 12) 0 0) (X + 12) 28 = nI dn := by rw [hb _ _ (by omega)]; exact d1
  by_cases hd : dn = 0
  · refine ⟨-1, ?_, ?_⟩
    · rw [q_gR0 hL, d2 hd]; rfl
    · exact moved_none hL2 (dn := dn) (dm := dm) (er := er) w1 h28 (fun k hk => absurd hk (by omega)) a b 0 2100 0 (by omega) (by omega) (fun j _ hj => absurd hj (by omega))
  · obtain ⟨e1, e2, e3⟩ := d3 (by omega)
    have he : ∀ k, k < dn → mI (setI m (X + 12) 0 0) (X + 31) k = nI (dm k) ∧ mI (setI m (X + 12) 0 0) (X + 32) k = nI (er k) ∧ er k ≤ 100 := fun k hk => by
      rw [hb _ _ (by omega), hb _ _ (by omega)]
      exact ⟨(e3 k hk).2.1.2.2.1, (e3 k hk).2.1.2.2.2, (w2 k hk).1⟩
    rcases source_x e2 w1 (fun k hk => ⟨(e3 k hk).1.1, (e3 k hk).1.2.1, (e3 k hk).2.1.1⟩) a with ⟨k, hk, ha, hj, es⟩ | ⟨hj, es⟩
    · obtain ⟨⟨f1, f2, f3, f4, f5⟩, ⟨f6, f7, f8, f9⟩, f10⟩ := e3 k hk
      obtain ⟨u1, u2, u3, u4⟩ := w2 k hk
      rcases hasRow_x f2 f7 u1 b with ⟨i, hi, rfl, er1⟩ | ⟨hi, er1⟩
      · have hg := f10 i hi
        have hq := moved_hit hL2 (g := dg k i) w1 hk h28 he hi (by rw [hb _ _ (by omega)]; exact hg.2) ha hj k 2100 0 (by omega) (by omega)
        refine ⟨if 0 ≤ dg k i then dg k i else -3, ?_, hq⟩
        rw [q_gR0 hL, e1]
        show bnd _ _ m = _
        rw [q_gR0 hL, e1]
        show bnd _ _ m = _
        rw [b_cle e2.1 es]
        show bnd _ _ m = _
        rw [b_cle f2 er1, i_f n10, b_gN f2 f3, b_lI f4 f5 hi (by omega), hg.1]
        rcases u4 i hi with q | ⟨j, hj9, q⟩
        · rw [q, i_t (by rfl), if_neg (by decide)]; rfl
        · rw [q, i_f (nI_m1 hj9), if_pos (nI_pos' hj9), b_gN f2 f3, b_lI f4 f5 hi (by omega), hg.1, q]; rfl
      · refine ⟨-1, ?_, ?_⟩
        · rw [q_gR0 hL, e1]
          show bnd _ _ m = _
          rw [q_gR0 hL, e1]
          show bnd _ _ m = _
          rw [b_cle e2.1 es]
          show bnd _ _ m = _
          rw [b_cle f2 er1, i_t (by rfl)]; rfl
        · refine moved_none hL2 w1 h28 he a b dn 2100 0 (by omega) (by omega) (fun j _ hj9 => ?_)
          by_cases q : j = k
          · subst q; exact Or.inr hi
          · refine Or.inl (fun z => q (w3 j k hj9 hk ?_))
            have u5 := (w2 j hj9).2.1
            rw [ha] at z
            exact ((nI_eq (by omega) (by omega)).mp z).symm
    · refine ⟨-1, ?_, ?_⟩
      · rw [q_gR0 hL, e1]
        show bnd _ _ m = _
        rw [q_gR0 hL, e1]
        show bnd _ _ m = _
        rw [b_cle e2.1 es]; rfl
      · exact moved_none hL2 w1 h28 he a b dn 2100 0 (by omega) (by omega) (fun j _ hj9 => Or.inl (hj j hj9))
end MV

/-! one row is taken: the reference -/
section TAKQ
variable {X c : Nat} {m : Mem}
def QM (X gp gn gt gw : Nat) (O N T Z ga : Nat → Nat) (R : Nat → Nat → Nat) (V : Nat → Nat → Int32) (Lv : Nat → Nat → Bool) (gg : Nat → Nat → Int32) (nk : Nat → Nat) (nv : Nat → Int32) (nt tt : Nat → Nat) (m : Mem) : Prop := SL X m ∧ (mI m (X + 12) 19 = nI gn ∧ mI m (X + 12) 20 = nI gp ∧ mI m (X + 12) 21 = nI gt ∧ mI m (X + 12) 22 = nI gw) ∧ (∀ k, k < gn → (mI m (X + 26) k = nI (ga k) ∧ ∀ i, i < ga k → mI m (X + 30) (100 * k + i) = gg k i) ∧ (mI m (X + 18) (gp + k) = nI (O k) ∧ O k < 21) ∧ RfS X m (O k) (N k) (T k) (Z k) (R k) (V k) ∧ RfL X m (O k) (Z k) (Lv k)) ∧ (∀ j, j < gw → mI m (X + 27) j = nI (nk j) ∧ mI m (X + 28) j = nv j ∧ mI m (X + 29) j = nI (nt j)) ∧ ∀ a, a < 100 → mI m (X + 14) a = nI (tt a)
def SQ (X b j : Nat) : Prop := (b = X + 12 ∧ (j = 21 ∨ j = 22)) ∨ b = X + 26 ∨ b = X + 27 ∨ b = X + 28 ∨ b = X + 29 ∨ b = X + 30
variable {ca gp gn gt gw gl : Nat} {O N T Z ga : Nat → Nat} {R : Nat → Nat → Nat} {V : Nat → Nat → Int32} {Lv : Nat → Nat → Bool} {gg : Nat → Nat → Int32} {wk wi nk : Nat → Nat} {nv : Nat → Int32} {nt tt : Nat → Nat}
theorem slot_q (h : QM X gp gn gt gw O N T Z ga R V Lv gg nk nv nt tt m) (hp : gp + gn ≤ 20) {k : Nat} (hk : k < gn) : f_X4_slotOf (X + 12) (nI k) m = some (nI (O k), m) := slotOf_eq h.1 (od := fun _ => O k) h.2.1.2.1 (h.2.2.1 k hk).2.1.1 (by omega)
theorem keyAt_q (h : QM X gp gn gt gw O N T Z ga R V Lv gg nk nv nt tt m) (hg : gn ≤ 6) (hp : gp + gn ≤ 20) (z : WZ gn Z R Lv) {k : Nat} (hk : k < gn) (hz : ga k < Z k) : f_X4_keyAt (X + 12) (nI k) m = some (nI (R k (ga k)), m) := by
  obtain ⟨⟨h1, -⟩, ⟨-, h3⟩, ⟨h4, h5⟩, -⟩ := h.2.2.1 k hk
  have h100 := (z.1 k hk).1
  unfold f_X4_keyAt
  rw [q_gN12_13 h.1, q_cl12 h.1, b_eq (slot_q h hp hk), q_gN12_23 h.1, q_lI26 h.1 (by omega), h1, nI100, q_lI23 h.1 (by omega), (h5 _ hz).1]; rfl
theorem least_q (h : QM X gp gn gt gw O N T Z ga R V Lv gg nk nv nt tt m) (z : WZ gn Z R Lv) (hg : gn ≤ 6) (hp : gp + gn ≤ 20) (ht : ∀ k, k < gn → ga k ≤ Z k) : ∃ x, f_X4_takeOne_L4 2100 (X + 12) (-1) 0 m = some ((enc (-1) (bst ga Z (fun k => R k (ga k)) gn), x), m) := by
  have hL := h.1
  have L : ∀ d f k, k + d = gn → d < f → f_X4_takeOne_L4 f (X + 12) (enc (-1) (bst ga Z (fun k => R k (ga k)) k)) (nI k) m = some ((enc (-1) (bst ga Z (fun k => R k (ga k)) gn), nI gn), m) := by
    intro d
    induction d with
    | zero =>
      intro f k hk hf
      obtain ⟨f, rfl⟩ : ∃ g, f = g + 1 := ⟨f - 1, by omega⟩
      have : k = gn := by omega
      subst this
      unfold f_X4_takeOne_L4
      rw [q_gI12 hL, h.2.1.1, i_t (leL (Nat.le_refl _) (by omega))]; rfl
    | succ d ih =>
      intro f k hk hf
      obtain ⟨f, rfl⟩ : ∃ g, f = g + 1 := ⟨f - 1, by omega⟩
      have hk2 : k < gn := by omega
      obtain ⟨⟨h1, -⟩, ⟨-, h3⟩, ⟨⟨-, -, h4⟩, h5⟩, -⟩ := h.2.2.1 k hk2
      obtain ⟨z1, z2, z3⟩ := z.1 k hk2
      have hgk := ht k hk2
      have ih2 := ih f (k + 1) (by omega) (by omega)
      unfold f_X4_takeOne_L4
      rw [q_gI12 hL, h.2.1.1, i_f (leN hk2 (by omega)), q_gN12_23 hL, q_lI26 hL (by omega), h1, q_gN12_12 hL, q_cl12 hL, b_eq (slot_q h hp hk2), q_lI22 hL h3, h4]
      by_cases q : Z k ≤ ga k
      · rw [bst_le q] at ih2
        rw [i_t (leL q (by omega)), nI_1]
        exact ih2
      · have hR := z2 (ga k) (by omega)
        rw [i_f (leN (by omega) (by omega))]
        cases hb : bst ga Z (fun k => R k (ga k)) k with
        | none =>
          rw [bst_n q hb] at ih2
          rw [i_t (show enc (-1) none < 0 from m1_lt), nI_1]
          exact ih2
        | some b =>
          rw [bst_b q hb] at ih2
          obtain ⟨y1, y2, -⟩ := (bst_spec ga Z (fun k => R k (ga k)) k).2 b hb
          have hRb := (z.1 b (by omega)).2.1 (ga b) y2
          rw [i_f (show ¬ enc (-1) (some b) < 0 from nI_lt0 (by omega)), q_cl12 hL, b_eq (keyAt_q h hg hp z hk2 (by omega)), q_cl12 hL, b_eq (show f_X4_keyAt (X + 12) (enc (-1) (some b)) m = _ from keyAt_q h hg hp z (by omega) y2)]
          by_cases q2 : R b (ga b) ≤ R k (ga k)
          · simp only [if_pos q2] at ih2
            rw [i_t (leL q2 (by omega)), nI_1]
            exact ih2
          · simp only [if_neg q2] at ih2
            rw [i_f (leN (by omega) (by omega)), nI_1]
            exact ih2
  exact ⟨_, L gn 2100 0 (by omega) (by omega)⟩
theorem take_q (h : QM X gp gn gt gw O N T Z ga R V Lv gg nk nv nt tt m) (z : WZ gn Z R Lv) (hg : gn ≤ 6) (hp : gp + gn ≤ 20) (ht : ∀ k, k < gn → ga k ≤ Z k) {b : Nat} (hb : bst ga Z (fun k => R k (ga k)) gn = some b) (hgw : Lv b (ga b) = true → gw < 100) :
    ∃ m2, f_X4_takeOne (X + 12) m = some ((), m2) ∧ Ag (SQ X) m m2 ∧ (Lv b (ga b) = true → QM X gp gn (gt + 1) (gw + 1) O N T Z (va_up ga b (ga b + 1)) R V Lv (up2 gg b (ga b) (nI gw)) (va_up nk gw (R b (ga b))) (va_up nv gw (V b (ga b))) (va_up nt gw (tt (R b (ga b)))) tt m2) ∧ (Lv b (ga b) = false → QM X gp gn (gt + 1) gw O N T Z (va_up ga b (ga b + 1)) R V Lv (up2 gg b (ga b) (-1)) nk nv nt tt m2) := by
  obtain ⟨x9, hle⟩ := least_q h z hg hp ht
  rw [hb] at hle
  have hsl := fun k (hk : k < gn) => slot_q h hp hk
  obtain ⟨y1, y2, -⟩ := (bst_spec ga Z (fun k => R k (ga k)) gn).2 b hb
  obtain ⟨hL, ⟨i19, i20, i21, i22⟩, hK, hN, hT⟩ := h
  obtain ⟨⟨h1, h2⟩, ⟨h3, h4⟩, ⟨⟨h5, h6, h7⟩, h8⟩, h9⟩ := hK b y1
  obtain ⟨z1, z2, z3⟩ := z.1 b y1
  have hR := z2 _ y2
  have hst : ∀ (m2 : Mem), Ag (SQ X) m m2 → (∀ b2 j, b2 < X + 26 → b2 ≠ X + 12 → mI m2 b2 j = mI m b2 j) := fun m2 hA b2 j q1 q2 => hA.2.2.2.2 _ _ (fun q => by unfold SQ at q; omega)
  have fin : ∀ (x : Int32) (m2 : Mem), Ag (SQ X) m m2 → (∀ j, j ≠ 100 * b + ga b → mI m2 (X + 30) j = mI m (X + 30) j) → mI m2 (X + 30) (100 * b + ga b) = x → (∀ j, j ≠ b → mI m2 (X + 26) j = mI m (X + 26) j) → mI m2 (X + 26) b = nI (ga b + 1) → ∀ k, k < gn → (mI m2 (X + 26) k = nI (va_up ga b (ga b + 1) k) ∧ ∀ i, i < va_up ga b (ga b + 1) k → mI m2 (X + 30) (100 * k + i) = up2 gg b (ga b) x k i) ∧ (mI m2 (X + 18) (gp + k) = nI (O k) ∧ O k < 21) ∧ RfS X m2 (O k) (N k) (T k) (Z k) (R k) (V k) ∧ RfL X m2 (O k) (Z k) (Lv k) := fun x m2 hA f1 f2 f3 f4 k hk => by
    obtain ⟨⟨j1, j2⟩, ⟨j3, j4⟩, ⟨⟨j5, j6, j7⟩, j8⟩, j9⟩ := hK k hk
    have hs := hst m2 hA
    have hzk := (z.1 k hk).1
    have htk := ht k hk
    refine ⟨⟨?_, fun i hi => ?_⟩, ⟨by rw [hs _ _ (by omega) (by omega)]; exact j3, j4⟩, ⟨⟨by rw [hs _ _ (by omega) (by omega)]; exact j5, by rw [hs _ _ (by omega) (by omega)]; exact j6, by rw [hs _ _ (by omega) (by omega)]; exact j7⟩, fun i hi => by rw [hs _ _ (by omega) (by omega), hs _ _ (by omega) (by omega)]; exact j8 i hi⟩, fun i hi => by rw [hs _ _ (by omega) (by omega)]; exact j9 i hi⟩
    · by_cases e : k = b
      · rw [e, va_s]; exact f4
      · rw [va_n e, f3 k e]; exact j1
    · by_cases e : k = b ∧ i = ga b
      · obtain ⟨rfl, rfl⟩ := e
        rw [up2_s]; exact f2
      · have hi2 : i < ga k := by
          by_cases e2 : k = b
          · subst e2
            rw [va_s] at hi; omega
          · rw [va_n e2] at hi; exact hi
        rw [up2_n e, f1 _ (by omega)]
        exact j2 i hi2
  obtain ⟨ma, hma⟩ : ∃ ma, ma = setI m (X + 30) (100 * b + ga b) (-1) := ⟨_, rfl⟩
  have hLa : SL X ma := by rw [hma]; exact hL
  have ia : ∀ b2 j, b2 ≠ X + 30 → mI ma b2 j = mI m b2 j := fun b2 j q => by rw [hma, mI_setI, if_neg (by omega)]
  have h100 : 100 * b + ga b < 600 := by omega
  have h2100 : 100 * O b + ga b < 2100 := by omega
  cases hl : Lv b (ga b) with
  | false =>
    obtain ⟨mb, hmb⟩ : ∃ mb, mb = setI ma (X + 26) b (nI (ga b + 1)) := ⟨_, rfl⟩
    have hLb : SL X mb := by rw [hmb]; exact hLa
    obtain ⟨m2, hm2⟩ : ∃ m2, m2 = setI mb (X + 12) 21 (nI (gt + 1)) := ⟨_, rfl⟩
    have hA : Ag (SQ X) m m2 := by
      rw [hm2, hmb, hma]
      refine ((Ag.setI.trans Ag.setI).trans Ag.setI).mono (fun b2 j q => ?_)
      rcases q with (⟨rfl, rfl⟩ | ⟨rfl, rfl⟩) | ⟨rfl, rfl⟩ <;> simp [SQ]
    refine ⟨m2, ?_, hA, fun q => absurd q (by decide), fun _ => ⟨hA.SL hL, ⟨?_, ?_, ?_, ?_⟩, fin (-1) m2 hA (fun j q => ?_) ?_ (fun j q => ?_) ?_, fun j hj => ?_, fun a ha => ?_⟩⟩
    · unfold f_X4_takeOne
      rw [b_eq hle]
      show bnd (cl 4 (X + 12) (f_X4_slotOf (X + 12) (nI b))) _ m = _
      rw [q_cl12 hL, b_eq (hsl b y1), q_gN12_23 hL]
      show bnd (lI 5 (X + 26) (nI b)) _ m = _
      rw [q_lI26 hL (by omega), h1, q_gN12_27 hL, q_gN12_23 hL]
      show bnd (lI 5 (X + 26) (nI b)) _ m = _
      rw [q_lI26 hL (by omega), h1]
      show bnd (sI 5 (X + 30) (100 * nI b + nI (ga b)) (-1)) _ m = _
      rw [nI100, q_sI30 hL h100, ← hma, q_gN12_15 hLa, nI100, q_lI25 hLa h2100, ia _ _ (by omega), h9 _ y2, hl, i_t (by rfl), q_gN12_23 hLa]
      show bnd (lI 5 (X + 26) (nI b)) _ ma = _
      rw [q_lI26 hLa (by omega), ia _ _ (by omega), h1, nI_1]
      show bnd (sI 5 (X + 26) (nI b) (nI (ga b + 1))) _ ma = _
      rw [q_sI26 hLa (by omega), ← hmb, q_gI12 hLb]
      have v21 : mI mb (X + 12) 21 = nI gt := by rw [hmb, mI_setI, if_neg (by omega), ia _ _ (by omega)]; exact i21
      rw [v21, nI_1, q_pI12 hLb, ← hm2]; rfl
    · rw [hA.2.2.2.2 _ _ (fun q => by unfold SQ at q; omega)]; exact i19
    · rw [hA.2.2.2.2 _ _ (fun q => by unfold SQ at q; omega)]; exact i20
    · rw [hm2, mI_setI, if_pos ⟨rfl, rfl⟩]
    · rw [hm2, mI_setI, if_neg (by omega), hmb, mI_setI, if_neg (by omega), ia _ _ (by omega)]; exact i22
    · rw [hm2, mI_setI, if_neg (by omega), hmb, mI_setI, if_neg (by omega), hma, mI_setI, if_neg (by omega)]
    · rw [hm2, mI_setI, if_neg (by omega), hmb, mI_setI, if_neg (by omega), hma, mI_setI, if_pos ⟨rfl, rfl⟩]
    · rw [hm2, mI_setI, if_neg (by omega), hmb, mI_setI, if_neg (by omega), ia _ _ (by omega)]
    · rw [hm2, mI_setI, if_neg (by omega), hmb, mI_setI, if_pos ⟨rfl, rfl⟩]
    · rw [hm2, mI_setI, if_neg (by omega), hmb, mI_setI, if_neg (by omega), ia _ _ (by omega), mI_setI, if_neg (by omega), mI_setI, if_neg (by omega), ia _ _ (by omega), mI_setI, if_neg (by omega), mI_setI, if_neg (by omega), ia _ _ (by omega)]
      exact hN j hj
    · rw [hst m2 hA _ _ (by omega) (by omega)]; exact hT a ha
  | true =>
    have hw9 := hgw hl
    obtain ⟨mb, hmb⟩ : ∃ mb, mb = setI ma (X + 30) (100 * b + ga b) (nI gw) := ⟨_, rfl⟩
    have hLb : SL X mb := by rw [hmb]; exact hLa
    obtain ⟨mc, hmc⟩ : ∃ mc, mc = setI mb (X + 27) gw (nI (R b (ga b))) := ⟨_, rfl⟩
    have hLc : SL X mc := by rw [hmc]; exact hLb
    obtain ⟨md, hmd⟩ : ∃ md, md = setI mc (X + 28) gw (V b (ga b)) := ⟨_, rfl⟩
    have hLd : SL X md := by rw [hmd]; exact hLc
    obtain ⟨me, hme⟩ : ∃ me, me = setI md (X + 29) gw (nI (tt (R b (ga b)))) := ⟨_, rfl⟩
    have hLe : SL X me := by rw [hme]; exact hLd
    obtain ⟨mf, hmf⟩ : ∃ mf, mf = setI me (X + 12) 22 (nI (gw + 1)) := ⟨_, rfl⟩
    have hLf : SL X mf := by rw [hmf]; exact hLe
    obtain ⟨mg, hmg⟩ : ∃ mg, mg = setI mf (X + 26) b (nI (ga b + 1)) := ⟨_, rfl⟩
    have hLg : SL X mg := by rw [hmg]; exact hLf
    obtain ⟨m2, hm2⟩ : ∃ m2, m2 = setI mg (X + 12) 21 (nI (gt + 1)) := ⟨_, rfl⟩
    have hA : Ag (SQ X) m m2 := by
      rw [hm2, hmg, hmf, hme, hmd, hmc, hmb, hma]
      refine (((((((Ag.setI.trans Ag.setI).trans Ag.setI).trans Ag.setI).trans Ag.setI).trans Ag.setI).trans Ag.setI).trans Ag.setI).mono (fun b2 j q => ?_)
      rcases q with ((((((⟨rfl, rfl⟩ | ⟨rfl, rfl⟩) | ⟨rfl, rfl⟩) | ⟨rfl, rfl⟩) | ⟨rfl, rfl⟩) | ⟨rfl, rfl⟩) | ⟨rfl, rfl⟩) | ⟨rfl, rfl⟩ <;> simp [SQ]
    have ib : ∀ b2 j, b2 ≠ X + 30 → mI mb b2 j = mI m b2 j := fun b2 j q => by rw [hmb, mI_setI, if_neg (by omega), ia b2 j q]
    have ic : ∀ b2 j, b2 ≠ X + 30 → b2 ≠ X + 27 → mI mc b2 j = mI m b2 j := fun b2 j q q2 => by rw [hmc, mI_setI, if_neg (by omega), ib b2 j q]
    have id9 : ∀ b2 j, b2 ≠ X + 30 → b2 ≠ X + 27 → b2 ≠ X + 28 → mI md b2 j = mI m b2 j := fun b2 j q q2 q3 => by rw [hmd, mI_setI, if_neg (by omega), ic b2 j q q2]
    have ie : ∀ b2 j, b2 ≠ X + 30 → b2 ≠ X + 27 → b2 ≠ X + 28 → b2 ≠ X + 29 → mI me b2 j = mI m b2 j := fun b2 j q q2 q3 q4 => by rw [hme, mI_setI, if_neg (by omega), id9 b2 j q q2 q3]
    have w27 : ∀ j, mI m2 (X + 27) j = if j = gw then nI (R b (ga b)) else mI m (X + 27) j := fun j => by
      rw [hm2, mI_setI, if_neg (by omega), hmg, mI_setI, if_neg (by omega), hmf, mI_setI, if_neg (by omega), hme, mI_setI, if_neg (by omega), hmd, mI_setI, if_neg (by omega), hmc, mI_setI, ib _ _ (by omega)]
      simp
    have w28 : ∀ j, mI m2 (X + 28) j = if j = gw then V b (ga b) else mI m (X + 28) j := fun j => by
      rw [hm2, mI_setI, if_neg (by omega), hmg, mI_setI, if_neg (by omega), hmf, mI_setI, if_neg (by omega), hme, mI_setI, if_neg (by omega), hmd, mI_setI, ic _ _ (by omega) (by omega)]
      simp
    have w29 : ∀ j, mI m2 (X + 29) j = if j = gw then nI (tt (R b (ga b))) else mI m (X + 29) j := fun j => by
      rw [hm2, mI_setI, if_neg (by omega), hmg, mI_setI, if_neg (by omega), hmf, mI_setI, if_neg (by omega), hme, mI_setI, id9 _ _ (by omega) (by omega) (by omega)]
      simp
    refine ⟨m2, ?_, hA, fun _ => ⟨hA.SL hL, ⟨?_, ?_, ?_, ?_⟩, fin (nI gw) m2 hA (fun j q => ?_) ?_ (fun j q => ?_) ?_, fun j hj => ?_, fun a ha => ?_⟩, fun q => absurd q (by decide)⟩
    · unfold f_X4_takeOne
      rw [b_eq hle]
      show bnd (cl 4 (X + 12) (f_X4_slotOf (X + 12) (nI b))) _ m = _
      rw [q_cl12 hL, b_eq (hsl b y1), q_gN12_23 hL]
      show bnd (lI 5 (X + 26) (nI b)) _ m = _
      rw [q_lI26 hL (by omega), h1, q_gN12_27 hL, q_gN12_23 hL]
      show bnd (lI 5 (X + 26) (nI b)) _ m = _
      rw [q_lI26 hL (by omega), h1]
      show bnd (sI 5 (X + 30) (100 * nI b + nI (ga b)) (-1)) _ m = _
      rw [nI100, q_sI30 hL h100, ← hma, q_gN12_15 hLa, nI100, q_lI25 hLa h2100, ia _ _ (by omega), h9 _ y2, hl, i_f b2i_t, q_gN12_27 hLa, q_gN12_23 hLa]
      show bnd (lI 5 (X + 26) (nI b)) _ ma = _
      rw [q_lI26 hLa (by omega), ia _ _ (by omega), h1, q_gI12 hLa, ia _ _ (by omega), i22]
      show bnd (sI 5 (X + 30) (100 * nI b + nI (ga b)) (nI gw)) _ ma = _
      rw [nI100, q_sI30 hLa h100, ← hmb, q_gN12_24 hLb, q_gI12 hLb, ib _ _ (by omega), i22, q_gN12_13 hLb, q_lI23 hLb h2100, ib _ _ (by omega), (h8 _ y2).1, q_sI27 hLb hw9, ← hmc, q_gN12_25 hLc, q_gI12 hLc, ic _ _ (by omega) (by omega), i22, q_gN12_14 hLc, q_lI24 hLc h2100, ic _ _ (by omega) (by omega), (h8 _ y2).2, q_sI28 hLc hw9, ← hmd, q_gN12_26 hLd, q_gI12 hLd, id9 _ _ (by omega) (by omega) (by omega), i22, q_gN12_2 hLd, q_gN12_13 hLd, q_lI23 hLd h2100, id9 _ _ (by omega) (by omega) (by omega), (h8 _ y2).1, q_lI14 hLd hR, id9 _ _ (by omega) (by omega) (by omega), hT _ hR, q_sI29 hLd hw9, ← hme, q_gI12 hLe, ie _ _ (by omega) (by omega) (by omega) (by omega), i22, nI_1, q_pI12 hLe, ← hmf, q_gN12_23 hLf]
      show bnd (lI 5 (X + 26) (nI b)) _ mf = _
      have v26 : mI mf (X + 26) b = nI (ga b) := by rw [hmf, mI_setI, if_neg (by omega), ie _ _ (by omega) (by omega) (by omega) (by omega)]; exact h1
      rw [q_lI26 hLf (by omega), v26, nI_1]
      show bnd (sI 5 (X + 26) (nI b) (nI (ga b + 1))) _ mf = _
      rw [q_sI26 hLf (by omega), ← hmg, q_gI12 hLg]
      have v21 : mI mg (X + 12) 21 = nI gt := by rw [hmg, mI_setI, if_neg (by omega), hmf, mI_setI, if_neg (by omega), ie _ _ (by omega) (by omega) (by omega) (by omega)]; exact i21
      rw [v21, nI_1, q_pI12 hLg, ← hm2]; rfl
    · rw [hA.2.2.2.2 _ _ (fun q => by unfold SQ at q; omega)]; exact i19
    · rw [hA.2.2.2.2 _ _ (fun q => by unfold SQ at q; omega)]; exact i20
    · rw [hm2, mI_setI, if_pos ⟨rfl, rfl⟩]
    · rw [hm2, mI_setI, if_neg (by omega), hmg, mI_setI, if_neg (by omega), hmf, mI_setI, if_pos ⟨rfl, rfl⟩]
    · rw [hm2, mI_setI, if_neg (by omega), hmg, mI_setI, if_neg (by omega), hmf, mI_setI, if_neg (by omega), hme, mI_setI, if_neg (by omega), hmd, mI_setI, if_neg (by omega), hmc, mI_setI, if_neg (by omega), hmb, mI_setI, if_neg (by omega), hma, mI_setI, if_neg (by omega)]
    · rw [hm2, mI_setI, if_neg (by omega), hmg, mI_setI, if_neg (by omega), hmf, mI_setI, if_neg (by omega), hme, mI_setI, if_neg (by omega), hmd, mI_setI, if_neg (by omega), hmc, mI_setI, if_neg (by omega), hmb, mI_setI, if_pos ⟨rfl, rfl⟩]
    · rw [hm2, mI_setI, if_neg (by omega), hmg, mI_setI, if_neg (by omega), hmf, mI_setI, if_neg (by omega), ie _ _ (by omega) (by omega) (by omega) (by omega)]
    · rw [hm2, mI_setI, if_neg (by omega), hmg, mI_setI, if_pos ⟨rfl, rfl⟩]
    · rw [w27, w28, w29]
      by_cases e : j = gw
      · subst e
        rw [if_pos rfl, if_pos rfl, if_pos rfl, va_s, va_s, va_s]
        exact ⟨rfl, rfl, rfl⟩
      · rw [if_neg e, if_neg e, if_neg e, va_n e, va_n e, va_n e]
        exact hN j (by omega)
    · rw [hst m2 hA _ _ (by omega) (by omega)]; exact hT a ha
end TAKQ

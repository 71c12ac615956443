/-! one row is taken: the program -/
section TAKX
variable {X c : Nat} {m : Mem}
def CM (X ca gp gn gt gw gl : Nat) (A N T Z ga : Nat → Nat) (R : Nat → Nat → Nat) (V : Nat → Nat → Int32) (Lv : Nat → Nat → Bool) (gg : Nat → Nat → Int32) (m : Mem) : Prop := SL X m ∧ mR m X 7 = some ca ∧ Mg m ca gp gn gt gw gl A ga ∧ ∀ k, k < gn → (∀ i, i < ga k → mI m (A k + 4) i = gg k i) ∧ SgS m (A k) (N k) (T k) (Z k) (R k) (V k) ∧ SgL m (A k) (Z k) (Lv k)
def WX (X ca gp gn : Nat) (A : Nat → Nat) : Prop := gn ≤ 6 ∧ gp + gn ≤ 20 ∧ X + 37 ≤ ca ∧ (∀ k, k < gn → X + 37 ≤ A k ∧ dj ca 3 (A k) 5) ∧ ∀ k r, k < gn → r < gn → k ≠ r → dj (A k) 5 (A r) 5
def SC (ca gn : Nat) (A : Nat → Nat) (b j : Nat) : Prop := (b = ca ∧ (j = 3 ∨ j = 4 ∨ j = 5)) ∨ b = ca + 2 ∨ ∃ k, k < gn ∧ b = A k + 4
variable {ca gp gn gt gw gl : Nat} {A N T Z ga : Nat → Nat} {R : Nat → Nat → Nat} {V : Nat → Nat → Int32} {Lv : Nat → Nat → Bool} {gg : Nat → Nat → Int32} {wk wi nk : Nat → Nat} {nv : Nat → Int32} {nt tt : Nat → Nat}
theorem bst_le {K : Nat → Nat} {k : Nat} (h : Z k ≤ ga k) : bst ga Z K (k + 1) = bst ga Z K k := by
  show (if Z k ≤ ga k then bst ga Z K k else _) = _
  rw [if_pos h]
theorem bst_n {K : Nat → Nat} {k : Nat} (h : ¬ Z k ≤ ga k) (e : bst ga Z K k = none) : bst ga Z K (k + 1) = some k := by
  show (if Z k ≤ ga k then bst ga Z K k else match bst ga Z K k with | none => some k | some b => if K b ≤ K k then some b else some k) = _
  rw [if_neg h, e]
theorem bst_b {K : Nat → Nat} {k b : Nat} (h : ¬ Z k ≤ ga k) (e : bst ga Z K k = some b) : bst ga Z K (k + 1) = if K b ≤ K k then some b else some k := by
  show (if Z k ≤ ga k then bst ga Z K k else match bst ga Z K k with | none => some k | some b => if K b ≤ K k then some b else some k) = _
  rw [if_neg h, e]
def lstK (K : Nat → Nat) (o : Option Nat) : Int32 := match o with
  | none => 100
  | some b => nI (K b)
theorem least_x (h : CM X ca gp gn gt gw gl A N T Z ga R V Lv gg m) (z : WZ gn Z R Lv) (hg : gn ≤ 6) (ht : ∀ k, k < gn → ga k ≤ Z k) : f_X1_sourceOfLeastKey ca m = some (enc (-1) (bst ga Z (fun k => R k (ga k)) gn), m) := by
  obtain ⟨hL, -, ⟨⟨k0, k1, k2, k3, k4, k5, k6⟩, -, hM⟩, hS⟩ := h
  have L : ∀ d f k, k + d = gn → d < f → f_X1_sourceOfLeastKey_L7 f ca (enc (-1) (bst ga Z (fun k => R k (ga k)) k)) (lstK (fun k => R k (ga k)) (bst ga Z (fun k => R k (ga k)) k)) (nI k) m = some ((enc (-1) (bst ga Z (fun k => R k (ga k)) gn), lstK (fun k => R k (ga k)) (bst ga Z (fun k => R k (ga k)) gn), nI gn), m) := by
    intro d
    induction d with
    | zero =>
      intro f k hk hf
      obtain ⟨f, rfl⟩ : ∃ g, f = g + 1 := ⟨f - 1, by omega⟩
      have : k = gn := by omega
      subst this
      unfold f_X1_sourceOfLeastKey_L7
      rw [b_gN k0 k1, b_ln k3 k5, i_t (leL (Nat.le_refl _) (by omega))]; rfl
    | succ d ih =>
      intro f k hk hf
      obtain ⟨f, rfl⟩ : ∃ g, f = g + 1 := ⟨f - 1, by omega⟩
      have hk2 : k < gn := by omega
      obtain ⟨e1, e2⟩ := hM k hk2
      obtain ⟨-, ⟨⟨a0, a1, a2, a3, a4⟩, ⟨c1, c2, c3, c4⟩, ⟨n1, n2, n3, n4⟩, ⟨t1, t2, t3⟩, t5⟩, -⟩ := hS k hk2
      obtain ⟨z1, z2, z3⟩ := z.1 k hk2
      have hgk := ht k hk2
      have ih2 := ih f (k + 1) (by omega) (by omega)
      unfold f_X1_sourceOfLeastKey_L7
      rw [b_gN k0 k1, b_ln k3 k5, i_f (leN hk2 (by omega)), b_gN k0 k2, b_lI k4 k6 hk2 (by omega), e2, b_gN k0 k1, b_lR k3 k5 hk2 (by omega) e1, b_gI a0, t3]
      by_cases q : Z k ≤ ga k
      · rw [bst_le q] at ih2
        rw [i_t (leL q (by omega)), nI_1]
        exact ih2
      · have hR := z2 (ga k) (by omega)
        rw [i_f (leN (by omega) (by omega)), b_gN k0 k1, b_lR k3 k5 hk2 (by omega) e1, b_gN a0 a1, b_gN k0 k2, b_lI k4 k6 hk2 (by omega), e2, b_lI c1 n1 (by omega) (by omega), (t5 (ga k) (by omega)).1]
        cases hb : bst ga Z (fun k => R k (ga k)) k with
        | none =>
          rw [bst_n q hb] at ih2
          rw [i_f (show ¬ lstK (fun k => R k (ga k)) none ≤ nI (R k (ga k)) from leN (n := 100) hR (by decide)), b_gN k0 k1, b_lR k3 k5 hk2 (by omega) e1, b_gN a0 a1, b_gN k0 k2, b_lI k4 k6 hk2 (by omega), e2, b_lI c1 n1 (by omega) (by omega), (t5 (ga k) (by omega)).1, nI_1]
          exact ih2
        | some b =>
          rw [bst_b q hb] at ih2
          obtain ⟨y1, y2, -⟩ := (bst_spec ga Z (fun k => R k (ga k)) k).2 b hb
          have hRb := (z.1 b (by omega)).2.1 (ga b) y2
          by_cases q2 : R b (ga b) ≤ R k (ga k)
          · simp only [if_pos q2] at ih2
            rw [i_t (show lstK (fun k => R k (ga k)) (some b) ≤ nI (R k (ga k)) from leL q2 (by omega)), nI_1]
            exact ih2
          · simp only [if_neg q2] at ih2
            have q3 : ¬ nI (R b (ga b)) ≤ nI (R k (ga k)) := leN (by omega) (by omega)
            rw [i_f (show ¬ lstK (fun k => R k (ga k)) (some b) ≤ nI (R k (ga k)) from q3), b_gN k0 k1, b_lR k3 k5 hk2 (by omega) e1, b_gN a0 a1, b_gN k0 k2, b_lI k4 k6 hk2 (by omega), e2, b_lI c1 n1 (by omega) (by omega), (t5 (ga k) (by omega)).1, nI_1]
            exact ih2
  unfold f_X1_sourceOfLeastKey
  rw [b_eq (show f_X1_sourceOfLeastKey_L7 2100 ca (-1) 100 0 m = _ from L gn 2100 0 (by omega) (by omega))]; rfl
theorem take_x (h : CM X ca gp gn gt gw gl A N T Z ga R V Lv gg m) (z : WZ gn Z R Lv) (w : WX X ca gp gn A) (ht : ∀ k, k < gn → ga k ≤ Z k) (hgl : 0 < gl) {b : Nat} (hb : bst ga Z (fun k => R k (ga k)) gn = some b) :
    ∃ m2, f_X1_takeOne ca m = some ((), m2) ∧ Ag (SC ca gn A) m m2 ∧ (Lv b (ga b) = true → CM X ca gp gn (gt + 1) (gw + 1) (gl - 1) A N T Z (va_up ga b (ga b + 1)) R V Lv (up2 gg b (ga b) (nI gw)) m2) ∧ (Lv b (ga b) = false → CM X ca gp gn (gt + 1) gw (gl - 1) A N T Z (va_up ga b (ga b + 1)) R V Lv (up2 gg b (ga b) (-1)) m2) := by
  have hle : f_X1_sourceOfLeastKey ca m = some (nI b, m) := by
    have := least_x h z w.1 ht
    rw [hb] at this
    exact this
  obtain ⟨y1, y2, -⟩ := (bst_spec ga Z (fun k => R k (ga k)) gn).2 b hb
  obtain ⟨hL, h7, ⟨⟨k0, k1, k2, k3, k4, k5, k6⟩, ⟨i0, i3, i4, i5⟩, hM⟩, hS⟩ := h
  obtain ⟨w1, w2, w3, w4, w5⟩ := w
  obtain ⟨e1, e2⟩ := hM b y1
  obtain ⟨g1, ⟨⟨a0, a1, a2, a3, a4⟩, ⟨c1, c2, c3, c4⟩, ⟨n1, n2, n3, n4⟩, ⟨t1, t2, t3⟩, t5⟩, ⟨u1, u2⟩⟩ := hS b y1
  obtain ⟨z1, z2, z3⟩ := z.1 b y1
  obtain ⟨wb, wd⟩ := w4 b y1
  unfold dj at wd
  have hl5 : nI gl - 1 = nI (gl - 1) := by
    have := nI_pred (gl - 1)
    rw [show gl - 1 + 1 = gl by omega] at this
    exact this
  -- the cells after a row went to x, written nw
  have fin : ∀ (x : Int32) (nw : Nat) (m2 : Mem), Ag (SC ca gn A) m m2 → (∀ b2 j, ¬ ((b2 = ca ∧ (j = 3 ∨ j = 4 ∨ j = 5)) ∨ (b2 = ca + 2 ∧ j = b) ∨ (b2 = A b + 4 ∧ j = ga b)) → mI m2 b2 j = mI m b2 j) → mI m2 ca 3 = nI (gt + 1) → mI m2 ca 4 = nI nw → mI m2 ca 5 = nI (gl - 1) → mI m2 (ca + 2) b = nI (ga b + 1) → mI m2 (A b + 4) (ga b) = x → CM X ca gp gn (gt + 1) nw (gl - 1) A N T Z (va_up ga b (ga b + 1)) R V Lv (up2 gg b (ga b) x) m2 := fun x nw m2 hA hf f3 f4 f5 fb fx => by
    refine ⟨hA.SL hL, by rw [hA.2.2.1]; exact h7, ⟨⟨by rw [hA.1]; exact k0, by rw [hA.2.2.1]; exact k1, by rw [hA.2.2.1]; exact k2, by rw [hA.1]; exact k3, by rw [hA.1]; exact k4, by rw [hA.2.1]; exact k5, by rw [hA.2.1]; exact k6⟩, ⟨by rw [hf _ _ (by omega)]; exact i0, f3, f4, f5⟩, fun k hk => ⟨by rw [hA.2.2.1]; exact (hM k hk).1, ?_⟩⟩, fun k hk => ?_⟩
    · by_cases e : k = b
      · rw [e, va_s]; exact fb
      · rw [va_n e, hf _ _ (by omega)]; exact (hM k hk).2
    · obtain ⟨p1, p2, p3⟩ := hS k hk
      obtain ⟨v1, v2⟩ := w4 k hk
      unfold dj at v2
      have hne : (k = b ∧ A k = A b) ∨ A k + 5 ≤ A b ∨ A b + 5 ≤ A k := by
        by_cases e : k = b
        · exact Or.inl ⟨e, by rw [e]⟩
        · exact Or.inr (w5 k b hk y1 e)
      refine ⟨fun i hi => ?_, ?_, ?_⟩
      · by_cases e : k = b ∧ i = ga b
        · obtain ⟨rfl, rfl⟩ := e
          rw [up2_s]; exact fx
        · rw [up2_n e, hf _ _ (by omega)]
          refine p1 i ?_
          by_cases e2 : k = b
          · subst e2
            rw [va_s] at hi; omega
          · rw [va_n e2] at hi; exact hi
      · obtain ⟨q1, q2, q3, q4, q5⟩ := p2
        refine ⟨by rw [hA.1, hA.2.2.1]; exact q1, by rw [hA.1]; exact q2, by rw [hA.2.1]; exact q3, ?_, fun i hi => ?_⟩
        · rw [hf _ _ (by omega), hf _ _ (by omega), hf _ _ (by omega)]; exact q4
        · rw [hf _ _ (by omega), hf _ _ (by omega)]; exact q5 i hi
      · refine ⟨by rw [hf _ _ (by omega)]; exact p3.1, fun i hi => by rw [hf _ _ (by omega)]; exact p3.2 i hi⟩
  cases hl : Lv b (ga b) with
  | false =>
    obtain ⟨ma, hma⟩ : ∃ ma, ma = setI m (A b + 4) (ga b) (-1) := ⟨_, rfl⟩
    obtain ⟨mb, hmb⟩ : ∃ mb, mb = setI ma (ca + 2) b (nI (ga b + 1)) := ⟨_, rfl⟩
    obtain ⟨mc, hmc⟩ : ∃ mc, mc = setI mb ca 3 (nI (gt + 1)) := ⟨_, rfl⟩
    obtain ⟨m2, hm2⟩ : ∃ m2, m2 = setI mc ca 5 (nI (gl - 1)) := ⟨_, rfl⟩
    have hA : Ag (SC ca gn A) m m2 := by
      rw [hm2, hmc, hmb, hma]
      refine (((Ag.setI.trans Ag.setI).trans Ag.setI).trans Ag.setI).mono (fun b2 j q => ?_)
      rcases q with ((⟨q, -⟩ | ⟨q, -⟩) | q) | q
      · exact Or.inr (Or.inr ⟨b, y1, q⟩)
      · exact Or.inr (Or.inl q)
      · exact Or.inl ⟨q.1, Or.inl q.2⟩
      · exact Or.inl ⟨q.1, Or.inr (Or.inr q.2)⟩
    have ka : mK ma = mK m := by rw [hma]; rfl
    have kb : mK mb = mK m := by rw [hmb]; exact ka
    have kc : mK mc = mK m := by rw [hmc]; exact kb
    refine ⟨m2, ?_, hA, fun q => absurd q (by decide), fun _ => fin (-1) gw m2 hA (fun b2 j q => ?_) ?_ ?_ ?_ ?_ ?_⟩
    · have k0a : mK ma ca = 1 := by rw [ka]; exact k0
      have k0b : mK mb ca = 1 := by rw [kb]; exact k0
      have k0c : mK mc ca = 1 := by rw [kc]; exact k0
      have k2a : mR ma ca 2 = some (ca + 2) := by rw [hma]; exact k2
      have k4a : mK ma (ca + 2) = 5 := by rw [ka]; exact k4
      have k6a : mN ma (ca + 2) = gn := by rw [hma]; exact k6
      have v1 : mI ma (ca + 2) b = nI (ga b) := by rw [hma, mI_setI, if_neg (by omega)]; exact e2
      have v2 : mI mb ca 3 = nI gt := by rw [hmb, mI_setI, if_neg (by omega), hma, mI_setI, if_neg (by omega)]; exact i3
      have v3 : mI mc ca 5 = nI gl := by rw [hmc, mI_setI, if_neg (by omega), hmb, mI_setI, if_neg (by omega), hma, mI_setI, if_neg (by omega)]; exact i5
      unfold f_X1_takeOne
      rw [b_cl k0, b_eq hle, i_f (show ¬ nI b = (-1 : Int32) from nI_m1 (by omega))]
      show bnd (gN 1 ca 1) (fun b2 => bnd (lR 7 b2 (nI b)) _) m = _
      rw [b_gN k0 k1, b_lR k3 k5 y1 (by omega) e1, b_gN k0 k2]
      show bnd (lI 5 (ca + 2) (nI b)) _ m = _
      rw [b_lI k4 k6 y1 (by omega), e2, b_gN a0 a3, b_lI c3 n3 y2 (by omega), u2 _ y2, hl, i_t (by rfl), b_gN a0 a4, b_sI c4 n4 y2 (by omega), ← hma, b_gN k0a k2a]
      show bnd (lI 5 (ca + 2) (nI b)) _ ma = _
      rw [b_lI k4a k6a y1 (by omega), v1, nI_1]
      show bnd (sI 5 (ca + 2) (nI b) (nI (ga b + 1))) _ ma = _
      rw [b_sI k4a k6a y1 (by omega), ← hmb, b_gI k0b, v2, nI_1, b_pI k0b, ← hmc, b_gI k0c, v3, hl5, b_pI k0c, ← hm2]; rfl
    · rw [hm2, mI_setI, if_neg (by omega), hmc, mI_setI, if_neg (by omega), hmb, mI_setI, if_neg (by omega), hma, mI_setI, if_neg (by omega)]
    · rw [hm2, mI_setI, if_neg (by omega), hmc, mI_setI, if_pos ⟨rfl, rfl⟩]
    · rw [hm2, mI_setI, if_neg (by omega), hmc, mI_setI, if_neg (by omega), hmb, mI_setI, if_neg (by omega), hma, mI_setI, if_neg (by omega)]; exact i4
    · rw [hm2, mI_setI, if_pos ⟨rfl, rfl⟩]
    · rw [hm2, mI_setI, if_neg (by omega), hmc, mI_setI, if_neg (by omega), hmb, mI_setI, if_pos ⟨rfl, rfl⟩]
    · rw [hm2, mI_setI, if_neg (by omega), hmc, mI_setI, if_neg (by omega), hmb, mI_setI, if_neg (by omega), hma, mI_setI, if_pos ⟨rfl, rfl⟩]
  | true =>
    obtain ⟨ma, hma⟩ : ∃ ma, ma = setI m (A b + 4) (ga b) (nI gw) := ⟨_, rfl⟩
    obtain ⟨mw, hmw⟩ : ∃ mw, mw = setI ma ca 4 (nI (gw + 1)) := ⟨_, rfl⟩
    obtain ⟨mb, hmb⟩ : ∃ mb, mb = setI mw (ca + 2) b (nI (ga b + 1)) := ⟨_, rfl⟩
    obtain ⟨mc, hmc⟩ : ∃ mc, mc = setI mb ca 3 (nI (gt + 1)) := ⟨_, rfl⟩
    obtain ⟨m2, hm2⟩ : ∃ m2, m2 = setI mc ca 5 (nI (gl - 1)) := ⟨_, rfl⟩
    have hA : Ag (SC ca gn A) m m2 := by
      rw [hm2, hmc, hmb, hmw, hma]
      refine ((((Ag.setI.trans Ag.setI).trans Ag.setI).trans Ag.setI).trans Ag.setI).mono (fun b2 j q => ?_)
      rcases q with (((⟨q, -⟩ | q) | ⟨q, -⟩) | q) | q
      · exact Or.inr (Or.inr ⟨b, y1, q⟩)
      · exact Or.inl ⟨q.1, Or.inr (Or.inl q.2)⟩
      · exact Or.inr (Or.inl q)
      · exact Or.inl ⟨q.1, Or.inl q.2⟩
      · exact Or.inl ⟨q.1, Or.inr (Or.inr q.2)⟩
    have ka : mK ma = mK m := by rw [hma]; rfl
    have kw : mK mw = mK m := by rw [hmw]; exact ka
    have kb : mK mb = mK m := by rw [hmb]; exact kw
    have kc : mK mc = mK m := by rw [hmc]; exact kb
    refine ⟨m2, ?_, hA, fun _ => fin (nI gw) (gw + 1) m2 hA (fun b2 j q => ?_) ?_ ?_ ?_ ?_ ?_, fun q => absurd q (by decide)⟩
    · have k0a : mK ma ca = 1 := by rw [ka]; exact k0
      have k0w : mK mw ca = 1 := by rw [kw]; exact k0
      have k0b : mK mb ca = 1 := by rw [kb]; exact k0
      have k0c : mK mc ca = 1 := by rw [kc]; exact k0
      have k2a : mR mw ca 2 = some (ca + 2) := by rw [hmw, hma]; exact k2
      have k4a : mK mw (ca + 2) = 5 := by rw [kw]; exact k4
      have k6a : mN mw (ca + 2) = gn := by rw [hmw, hma]; exact k6
      have v0 : mI ma ca 4 = nI gw := by rw [hma, mI_setI, if_neg (by omega)]; exact i4
      have v1 : mI mw (ca + 2) b = nI (ga b) := by rw [hmw, mI_setI, if_neg (by omega), hma, mI_setI, if_neg (by omega)]; exact e2
      have v2 : mI mb ca 3 = nI gt := by rw [hmb, mI_setI, if_neg (by omega), hmw, mI_setI, if_neg (by omega), hma, mI_setI, if_neg (by omega)]; exact i3
      have v3 : mI mc ca 5 = nI gl := by rw [hmc, mI_setI, if_neg (by omega), hmb, mI_setI, if_neg (by omega), hmw, mI_setI, if_neg (by omega), hma, mI_setI, if_neg (by omega)]; exact i5
      unfold f_X1_takeOne
      rw [b_cl k0, b_eq hle, i_f (show ¬ nI b = (-1 : Int32) from nI_m1 (by omega))]
      show bnd (gN 1 ca 1) (fun b2 => bnd (lR 7 b2 (nI b)) _) m = _
      rw [b_gN k0 k1, b_lR k3 k5 y1 (by omega) e1, b_gN k0 k2]
      show bnd (lI 5 (ca + 2) (nI b)) _ m = _
      rw [b_lI k4 k6 y1 (by omega), e2, b_gN a0 a3, b_lI c3 n3 y2 (by omega), u2 _ y2, hl, i_f b2i_t, b_gN a0 a4, b_gI k0, i4, b_sI c4 n4 y2 (by omega), ← hma, b_gI k0a, v0, nI_1, b_pI k0a, ← hmw, b_gN k0w k2a]
      show bnd (lI 5 (ca + 2) (nI b)) _ mw = _
      rw [b_lI k4a k6a y1 (by omega), v1, nI_1]
      show bnd (sI 5 (ca + 2) (nI b) (nI (ga b + 1))) _ mw = _
      rw [b_sI k4a k6a y1 (by omega), ← hmb, b_gI k0b, v2, nI_1, b_pI k0b, ← hmc, b_gI k0c, v3, hl5, b_pI k0c, ← hm2]; rfl
    · rw [hm2, mI_setI, if_neg (by omega), hmc, mI_setI, if_neg (by omega), hmb, mI_setI, if_neg (by omega), hmw, mI_setI, if_neg (by omega), hma, mI_setI, if_neg (by omega)]
    · rw [hm2, mI_setI, if_neg (by omega), hmc, mI_setI, if_pos ⟨rfl, rfl⟩]
    · rw [hm2, mI_setI, if_neg (by omega), hmc, mI_setI, if_neg (by omega), hmb, mI_setI, if_neg (by omega), hmw, mI_setI, if_pos ⟨rfl, rfl⟩]
    · rw [hm2, mI_setI, if_pos ⟨rfl, rfl⟩]
    · rw [hm2, mI_setI, if_neg (by omega), hmc, mI_setI, if_neg (by omega), hmb, mI_setI, if_pos ⟨rfl, rfl⟩]
    · rw [hm2, mI_setI, if_neg (by omega), hmc, mI_setI, if_neg (by omega), hmb, mI_setI, if_neg (by omega), hmw, mI_setI, if_neg (by omega), hma, mI_setI, if_pos ⟨rfl, rfl⟩]
end TAKX

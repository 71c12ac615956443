/-! a segment is made: Segment.init, Segment.write; the reference's freeSlot, lay; ranks -/
section SEG
variable {X c : Nat} {m : Mem}
def SgK (m : Mem) (a sz : Nat) : Prop :=
  (mK m a = 2 ∧ mR m a 3 = some (a + 1) ∧ mR m a 4 = some (a + 2) ∧ mR m a 5 = some (a + 3) ∧ mR m a 6 = some (a + 4)) ∧
  (mK m (a + 1) = 5 ∧ mK m (a + 2) = 5 ∧ mK m (a + 3) = 6 ∧ mK m (a + 4) = 5) ∧ (mN m (a + 1) = sz ∧ mN m (a + 2) = sz ∧ mN m (a + 3) = sz ∧ mN m (a + 4) = sz)
theorem Ag.SgK {S : Nat → Nat → Prop} {m m2 : Mem} {a sz : Nat} (h : Ag S m m2) (g : SgK m a sz) : SgK m2 a sz := by
  unfold _root_.Jvm.Pilot.@@N@@.SgK
  rw [h.1, h.2.1, h.2.2.1]
  exact g
theorem al_step {m m' : Mem} {s a k t n : Nat} (hs : mS m = s) (e : m' = setR (allo m t n) a k (some s)) : mS m' = s + 1 ∧ (mK m' s = t ∧ mN m' s = n) ∧ mR m' a k = some s ∧ (∀ b, b ≠ s → mK m' b = mK m b ∧ mN m' b = mN m b ∧ mI m' b = mI m b) ∧ ∀ b j, b ≠ s → ¬ (b = a ∧ j = k) → mR m' b j = mR m b j := by
  subst hs
  subst e
  refine ⟨rfl, ⟨?_, ?_⟩, ?_, fun b hb => ⟨?_, ?_, funext fun j => ?_⟩, fun b j hb hj => ?_⟩
  · rw [mK_setR, mK_allo, if_pos rfl]
  · rw [mN_setR, mN_allo, if_pos rfl]
  · rw [mR_setR, if_pos ⟨rfl, rfl⟩]
  · rw [mK_setR, mK_allo, if_neg hb]
  · rw [mN_setR, mN_allo, if_neg hb]
  · rw [mI_setR, mI_allo, if_neg hb]
  · rw [mR_setR, if_neg hj, mR_allo, if_neg hb]
theorem init_spec {a sz : Nat} (h2 : mK m a = 2) (hs : mS m = a + 1) (hz : sz ≤ 100) (x y : Int32) : ∃ m2, f_X2_init a x y (nI sz) m = some ((), m2) ∧ mS m2 = a + 5 ∧ SgK m2 a sz ∧ (mI m2 a 0 = x ∧ mI m2 a 1 = y ∧ mI m2 a 2 = nI sz ∧ mI m2 a 7 = 0) ∧ ∀ b, b < a → eqA m m2 b := by
  obtain ⟨m1, hm1⟩ : ∃ m1, m1 = setI (setI (setI (setI m a 7 0) a 0 x) a 1 y) a 2 (nI sz) := ⟨_, rfl⟩
  have hs1 : mS m1 = a + 1 := by rw [hm1]; exact hs
  have h21 : mK m1 a = 2 := by rw [hm1]; exact h2
  obtain ⟨ma, hma⟩ : ∃ ma, ma = setR (allo m1 5 sz) a 3 (some (a + 1)) := ⟨_, rfl⟩
  obtain ⟨a1, ⟨a2, a3⟩, a4, a5, a6⟩ := al_step hs1 hma
  obtain ⟨mb, hmb⟩ : ∃ mb, mb = setR (allo ma 5 sz) a 4 (some (a + 2)) := ⟨_, rfl⟩
  obtain ⟨b1, ⟨b2, b3⟩, b4, b5, b6⟩ := al_step a1 hmb
  obtain ⟨mc, hmc⟩ : ∃ mc, mc = setR (allo mb 6 sz) a 5 (some (a + 3)) := ⟨_, rfl⟩
  obtain ⟨c1, ⟨c2, c3⟩, c4, c5, c6⟩ := al_step b1 hmc
  obtain ⟨md, hmd⟩ : ∃ md, md = setR (allo mc 5 sz) a 6 (some (a + 4)) := ⟨_, rfl⟩
  obtain ⟨d1, ⟨d2, d3⟩, d4, d5, d6⟩ := al_step c1 hmd
  refine ⟨md, ?_, d1, ⟨⟨?_, ?_, ?_, ?_, d4⟩, ⟨?_, ?_, ?_, d2⟩, ?_, ?_, ?_, d3⟩, ?_, fun b hb => ⟨?_, ?_, ?_, funext fun j => ?_⟩⟩
  · unfold f_X2_init
    have e1 : mK (setI m a 7 0) a = 2 := h2
    have e2 : mK (setI (setI m a 7 0) a 0 x) a = 2 := h2
    have e3 : mK (setI (setI (setI m a 7 0) a 0 x) a 1 y) a = 2 := h2
    have f1 : mK (allo m1 5 sz) a = 2 := by rw [mK_allo, hs1, if_neg (by omega)]; exact h21
    have f2 : mK (allo ma 5 sz) a = 2 := by rw [mK_allo, a1, if_neg (by omega), (a5 a (by omega)).1]; exact h21
    have f3 : mK (allo mb 6 sz) a = 2 := by rw [mK_allo, b1, if_neg (by omega), (b5 a (by omega)).1, (a5 a (by omega)).1]; exact h21
    have f4 : mK (allo mc 5 sz) a = 2 := by rw [mK_allo, c1, if_neg (by omega), (c5 a (by omega)).1, (b5 a (by omega)).1, (a5 a (by omega)).1]; exact h21
    rw [b_pI h2, b_pI e1, b_pI e2, b_pI e3, ← hm1, b_nA hz (by decide), hs1, b_pR f1, ← hma, b_nA hz (by decide), a1, b_pR f2, ← hmb, b_nA hz (by decide), b1, b_pR f3, ← hmc, b_nA hz (by decide), c1, b_pR f4, ← hmd]; rfl
  · rw [(d5 a (by omega)).1, (c5 a (by omega)).1, (b5 a (by omega)).1, (a5 a (by omega)).1]; exact h21
  · rw [d6 a _ (by omega) (by omega), c6 a _ (by omega) (by omega), b6 a _ (by omega) (by omega)]; exact a4
  · rw [d6 a _ (by omega) (by omega), c6 a _ (by omega) (by omega)]; exact b4
  · rw [d6 a _ (by omega) (by omega)]; exact c4
  · rw [(d5 _ (by omega)).1, (c5 _ (by omega)).1, (b5 _ (by omega)).1]; exact a2
  · rw [(d5 _ (by omega)).1, (c5 _ (by omega)).1]; exact b2
  · rw [(d5 _ (by omega)).1]; exact c2
  · rw [(d5 _ (by omega)).2.1, (c5 _ (by omega)).2.1, (b5 _ (by omega)).2.1]; exact a3
  · rw [(d5 _ (by omega)).2.1, (c5 _ (by omega)).2.1]; exact b3
  · rw [(d5 _ (by omega)).2.1]; exact c3
  · rw [(d5 _ (by omega)).2.2, (c5 _ (by omega)).2.2, (b5 _ (by omega)).2.2, (a5 _ (by omega)).2.2, hm1]
    refine ⟨?_, ?_, ?_, ?_⟩
    · rw [mI_setI, if_neg (by omega), mI_setI, if_neg (by omega), mI_setI, if_pos ⟨rfl, rfl⟩]
    · rw [mI_setI, if_neg (by omega), mI_setI, if_pos ⟨rfl, rfl⟩]
    · rw [mI_setI, if_pos ⟨rfl, rfl⟩]
    · rw [mI_setI, if_neg (by omega), mI_setI, if_neg (by omega), mI_setI, if_neg (by omega), mI_setI, if_pos ⟨rfl, rfl⟩]
  · rw [(d5 _ (by omega)).1, (c5 _ (by omega)).1, (b5 _ (by omega)).1, (a5 _ (by omega)).1, hm1]; rfl
  · rw [(d5 _ (by omega)).2.1, (c5 _ (by omega)).2.1, (b5 _ (by omega)).2.1, (a5 _ (by omega)).2.1, hm1]; rfl
  · rw [(d5 _ (by omega)).2.2, (c5 _ (by omega)).2.2, (b5 _ (by omega)).2.2, (a5 _ (by omega)).2.2, hm1]
    funext j
    rw [mI_setI, if_neg (by omega), mI_setI, if_neg (by omega), mI_setI, if_neg (by omega), mI_setI, if_neg (by omega)]
  · rw [d6 b _ (by omega) (by omega), c6 b _ (by omega) (by omega), b6 b _ (by omega) (by omega), a6 b _ (by omega) (by omega), hm1]; rfl
theorem write_spec {a sz i : Nat} (g : SgK m a sz) (hz : sz ≤ 100) (hi : i < sz) (x y w : Int32) (hw : w = 0 ∨ w = 1) : ∃ m2, f_X2_write a (nI i) x y w m = some ((), m2) ∧ Ag (fun b j => (b = a ∧ j = 7) ∨ ((b = a + 1 ∨ b = a + 2 ∨ b = a + 3) ∧ j = i)) m m2 ∧ (mI m2 (a + 1) i = x ∧ mI m2 (a + 2) i = y ∧ mI m2 (a + 3) i = w) ∧ mI m2 a 7 = (if w = 0 then mI m a 7 else mI m a 7 + 1) := by
  obtain ⟨⟨k0, k1, k2, k3, k4⟩, ⟨c1, c2, c3, c4⟩, ⟨n1, n2, n3, n4⟩⟩ := g
  obtain ⟨ma, hma⟩ : ∃ ma, ma = setI (setI (setI m (a + 1) i x) (a + 2) i y) (a + 3) i w := ⟨_, rfl⟩
  have hA : Ag (fun b j => (b = a + 1 ∨ b = a + 2 ∨ b = a + 3) ∧ j = i) m ma := by
    rw [hma]
    exact ((Ag.setI.trans Ag.setI).trans Ag.setI).mono (fun b j q => by omega)
  have k0a : mK (setI m (a + 1) i x) a = 2 := k0
  have k0b : mK (setI (setI m (a + 1) i x) (a + 2) i y) a = 2 := k0
  have k0c : mK ma a = 2 := by rw [hA.1]; exact k0
  have c2a : mK (setI m (a + 1) i x) (a + 2) = 5 := c2
  have n2a : mN (setI m (a + 1) i x) (a + 2) = sz := n2
  have c3a : mK (setI (setI m (a + 1) i x) (a + 2) i y) (a + 3) = 6 := c3
  have n3a : mN (setI (setI m (a + 1) i x) (a + 2) i y) (a + 3) = sz := n3
  have k2a : mR (setI m (a + 1) i x) a 4 = some (a + 2) := k2
  have k3a : mR (setI (setI m (a + 1) i x) (a + 2) i y) a 5 = some (a + 3) := k3
  have v1 : mI ma (a + 1) i = x := by rw [hma, mI_setI, if_neg (by omega), mI_setI, if_neg (by omega), mI_setI, if_pos ⟨rfl, rfl⟩]
  have v2 : mI ma (a + 2) i = y := by rw [hma, mI_setI, if_neg (by omega), mI_setI, if_pos ⟨rfl, rfl⟩]
  have v3 : mI ma (a + 3) i = w := by rw [hma, mI_setI, if_pos ⟨rfl, rfl⟩]
  have hu : ∀ {β : Type} (K : HM β), bnd (gN 2 a 3) (fun b1 => bnd (sI 5 b1 (nI i) x) fun _ => bnd (gN 2 a 4) fun b2 => bnd (sI 5 b2 (nI i) y) fun _ => bnd (gN 2 a 5) fun b3 => bnd (sZ b3 (nI i) w) fun _ => K) m = K ma := fun K => by
    rw [b_gN k0 k1, b_sI c1 n1 hi (by omega), b_gN k0a k2a, b_sI c2a n2a hi (by omega), b_gN k0b k3a, b_sZ c3a n3a hi (by omega) hw, ← hma]
  rcases hw with rfl | rfl
  · refine ⟨ma, ?_, hA.mono (fun b j q => Or.inr q), ⟨v1, v2, v3⟩, ?_⟩
    · unfold f_X2_write
      rw [hu, i_t (by rfl)]; rfl
    · rw [if_pos rfl, hA.2.2.2.2 _ _ (by omega)]
  · refine ⟨setI ma a 7 (mI m a 7 + 1), ?_, (hA.trans Ag.setI).mono (fun b j q => by omega), ⟨?_, ?_, ?_⟩, ?_⟩
    · unfold f_X2_write
      rw [hu, i_f n10, b_gI k0c, hA.2.2.2.2 _ _ (by omega), b_pI k0c]; rfl
    · rw [mI_setI, if_neg (by omega)]; exact v1
    · rw [mI_setI, if_neg (by omega)]; exact v2
    · rw [mI_setI, if_neg (by omega)]; exact v3
    · rw [mI_setI, if_pos ⟨rfl, rfl⟩, if_neg n10]
theorem lay_spec {s r k : Nat} (hL : SL X m) (hs : s < 21) (hr : mI m (X + 22) s = nI r) (hr1 : r < 100) (hk : k < 100) (x w : Int32) (hw : w = 0 ∨ w = 1) : ∃ m2, f_X4_lay (X + 12) (nI s) (nI k) x w m = some ((), m2) ∧ Ag (fun b j => ((b = X + 23 ∨ b = X + 24 ∨ b = X + 25) ∧ j = 100 * s + r) ∨ (b = X + 22 ∧ j = s) ∨ (w ≠ 0 ∧ (b = X + 15 ∨ b = X + 16) ∧ j = k)) m m2 ∧ (mI m2 (X + 23) (100 * s + r) = nI k ∧ mI m2 (X + 24) (100 * s + r) = x ∧ mI m2 (X + 25) (100 * s + r) = w) ∧ mI m2 (X + 22) s = nI (r + 1) ∧ (w ≠ 0 → mI m2 (X + 15) k = nI s ∧ mI m2 (X + 16) k = nI r) := by
  obtain ⟨ma, hma⟩ : ∃ ma, ma = setI (setI (setI m (X + 23) (100 * s + r) (nI k)) (X + 24) (100 * s + r) x) (X + 25) (100 * s + r) w := ⟨_, rfl⟩
  have hL1 : SL X (setI m (X + 23) (100 * s + r) (nI k)) := hL
  have hL2 : SL X (setI (setI m (X + 23) (100 * s + r) (nI k)) (X + 24) (100 * s + r) x) := hL
  have hLa : SL X ma := by rw [hma]; exact hL
  have hA : Ag (fun b j => (b = X + 23 ∨ b = X + 24 ∨ b = X + 25) ∧ j = 100 * s + r) m ma := by
    rw [hma]
    exact ((Ag.setI.trans Ag.setI).trans Ag.setI).mono (fun b j q => by omega)
  have v1 : mI ma (X + 23) (100 * s + r) = nI k := by rw [hma, mI_setI, if_neg (by omega), mI_setI, if_neg (by omega), mI_setI, if_pos ⟨rfl, rfl⟩]
  have v2 : mI ma (X + 24) (100 * s + r) = x := by rw [hma, mI_setI, if_neg (by omega), mI_setI, if_pos ⟨rfl, rfl⟩]
  have v3 : mI ma (X + 25) (100 * s + r) = w := by rw [hma, mI_setI, if_pos ⟨rfl, rfl⟩]
  have hra : mI ma (X + 22) s = nI r := by rw [hA.2.2.2.2 _ _ (by omega)]; exact hr
  have hu : ∀ {β : Type} (K : HM β), bnd (gN 4 (X + 12) 12) (fun b1 => bnd (lI 5 b1 (nI s)) fun v2 => bnd (gN 4 (X + 12) 13) fun b3 => bnd (sI 5 b3 ((100 * (nI s)) + v2) (nI k)) fun _ => bnd (gN 4 (X + 12) 14) fun b4 => bnd (sI 5 b4 ((100 * (nI s)) + v2) x) fun _ => bnd (gN 4 (X + 12) 15) fun b5 => bnd (sZ b5 ((100 * (nI s)) + v2) w) fun _ => K) m = K ma := fun K => by
    rw [q_gN12_12 hL, q_lI22 hL hs, hr, q_gN12_13 hL, nI100, q_sI23 hL (by omega), q_gN12_14 hL1, q_sI24 hL1 (by omega), q_gN12_15 hL2, q_sI25 hL2 (by omega) hw, ← hma]
  rcases hw with rfl | rfl
  · refine ⟨setI ma (X + 22) s (nI (r + 1)), ?_, (hA.trans Ag.setI).mono (fun b j q => ?_), ⟨?_, ?_, ?_⟩, ?_, fun q => absurd rfl q⟩
    · unfold f_X4_lay
      rw [hu, i_t (by rfl), q_gN12_12 hLa, q_lI22 hLa hs, hra, nI_1, q_sI22 hLa hs]; rfl
    · rcases q with q | q
      · exact Or.inl q
      · exact Or.inr (Or.inl q)
    · rw [mI_setI, if_neg (by omega)]; exact v1
    · rw [mI_setI, if_neg (by omega)]; exact v2
    · rw [mI_setI, if_neg (by omega)]; exact v3
    · rw [mI_setI, if_pos ⟨rfl, rfl⟩]
  · have hLb : SL X (setI ma (X + 15) k (nI s)) := hLa
    have hLc : SL X (setI (setI ma (X + 15) k (nI s)) (X + 16) k (nI r)) := hLa
    refine ⟨setI (setI (setI ma (X + 15) k (nI s)) (X + 16) k (nI r)) (X + 22) s (nI (r + 1)), ?_, (((hA.trans Ag.setI).trans Ag.setI).trans Ag.setI).mono (fun b j q => ?_), ⟨?_, ?_, ?_⟩, ?_, fun _ => ⟨?_, ?_⟩⟩
    · unfold f_X4_lay
      rw [hu, i_f n10, q_gN12_3 hLa, q_sI15 hLa hk, q_gN12_4 hLb, q_gN12_12 hLb, q_lI22 hLb hs, mI_setI, if_neg (by omega), hra, q_sI16 hLb hk, q_gN12_12 hLc, q_lI22 hLc hs, mI_setI, if_neg (by omega), mI_setI, if_neg (by omega), hra, nI_1, q_sI22 hLc hs]; rfl
    · rcases q with ((q | q) | q) | q
      · exact Or.inl q
      · exact Or.inr (Or.inr ⟨n10, Or.inl q.1, q.2⟩)
      · exact Or.inr (Or.inr ⟨n10, Or.inr q.1, q.2⟩)
      · exact Or.inr (Or.inl q)
    · rw [mI_setI, if_neg (by omega), mI_setI, if_neg (by omega), mI_setI, if_neg (by omega)]; exact v1
    · rw [mI_setI, if_neg (by omega), mI_setI, if_neg (by omega), mI_setI, if_neg (by omega)]; exact v2
    · rw [mI_setI, if_neg (by omega), mI_setI, if_neg (by omega), mI_setI, if_neg (by omega)]; exact v3
    · rw [mI_setI, if_pos ⟨rfl, rfl⟩]
    · rw [mI_setI, if_neg (by omega), mI_setI, if_neg (by omega), mI_setI, if_pos ⟨rfl, rfl⟩]
    · rw [mI_setI, if_neg (by omega), mI_setI, if_pos ⟨rfl, rfl⟩]
/-- the first that is free -/
theorem least_free {us : Nat → Bool} {n : Nat} (h : ∃ s, s < n ∧ us s = false) : ∃ s, s < n ∧ us s = false ∧ ∀ r, r < s → us r = true := by
  induction n with
  | zero => obtain ⟨s, hs, -⟩ := h; omega
  | succ n ih =>
    by_cases q : ∃ s, s < n ∧ us s = false
    · obtain ⟨s, h1, h2, h3⟩ := ih q
      exact ⟨s, by omega, h2, h3⟩
    · obtain ⟨s, h1, h2⟩ := h
      refine ⟨s, h1, h2, fun r hr => ?_⟩
      cases e : us r with
      | true => rfl
      | false => exact absurd ⟨r, by omega, e⟩ q
theorem sum_ge {f : Nat → Nat} {n j : Nat} (hj : j < n) : f j ≤ sumF f n := by
  induction n with
  | zero => omega
  | succ n ih =>
    unfold sumF
    by_cases e : j = n
    · rw [e]; omega
    · have := ih (by omega)
      omega
theorem sum_lb {f : Nat → Nat} {n : Nat} (h : ∀ j, j < n → 1 ≤ f j) : n ≤ sumF f n := by
  induction n with
  | zero => omega
  | succ n ih =>
    unfold sumF
    have := ih (fun j hj => h j (by omega))
    have := h n (by omega)
    omega
/-- fewer places than slots: a slot is free -/
theorem has_free {us : Nat → Bool} {od : Nat → Nat} {nS n : Nat} (h : nS < n) (h1 : ∀ p, p < nS → od p < n) (h2 : ∀ s, us s = true → ∃ p, p < nS ∧ od p = s) : ∃ s, s < n ∧ us s = false := by
  by_cases q : ∃ s, s < n ∧ us s = false
  · exact q
  · exfalso
    have hall : ∀ s, s < n → us s = true := fun s hs => by
      cases e : us s with
      | true => rfl
      | false => exact absurd ⟨s, hs, e⟩ q
    have e1 : n ≤ sumF (fun s => sumF (fun p => if od p = s then 1 else 0) nS) n := sum_lb (fun s hs => by
      obtain ⟨p, hp, e⟩ := h2 s (hall s hs)
      have := sum_ge (f := fun p => if od p = s then 1 else 0) hp
      simp only [e, if_true] at this
      exact this)
    rw [sum_swap (fun s p => if od p = s then 1 else 0)] at e1
    have e2 : sumF (fun p => sumF (fun s => if od p = s then 1 else 0) n) nS = nS := by
      rw [sumF_congr (g := fun _ => 1) (fun p hp => sum_one (h1 p hp) (by simp) (fun j hj hne => by simp [Ne.symm hne]))]
      exact sum_ones nS
    omega
theorem free_spec {us : Nat → Bool} {s0 : Nat} (hL : SL X m) (hu : ∀ s, s < 21 → mI m (X + 19) s = b2i (us s)) (h0 : s0 < 21) (h1 : us s0 = false) (h2 : ∀ r, r < s0 → us r = true) : f_X4_freeSlot (X + 12) m = some (nI s0, setI (setI m (X + 19) s0 1) (X + 22) s0 0) := by
  have L : ∀ d f s, s + d = s0 → d < f → f_X4_freeSlot_L2 f (X + 12) (nI s) m = some (nI s0, m) := by
    intro d
    induction d with
    | zero =>
      intro f s hs hf
      obtain ⟨f, rfl⟩ : ∃ g, f = g + 1 := ⟨f - 1, by omega⟩
      have : s = s0 := by omega
      subst this
      unfold f_X4_freeSlot_L2
      rw [q_gN12_9 hL, q_lI19 hL h0, hu s h0, h1, i_t (by rfl)]; rfl
    | succ d ih =>
      intro f s hs hf
      obtain ⟨f, rfl⟩ : ∃ g, f = g + 1 := ⟨f - 1, by omega⟩
      unfold f_X4_freeSlot_L2
      rw [q_gN12_9 hL, q_lI19 hL (by omega), hu s (by omega), h2 s (by omega), i_f b2i_t, nI_1]
      exact ih f (s + 1) (by omega) (by omega)
  have hL1 : SL X (setI m (X + 19) s0 1) := hL
  unfold f_X4_freeSlot
  rw [b_eq (show f_X4_freeSlot_L2 2100 (X + 12) 0 m = _ from L s0 2100 0 (by omega) (by omega)), q_gN12_9 hL, q_sI19 hL h0 (Or.inr rfl), q_gN12_12 hL1, q_sI22 hL1 h0]; rfl
/-! ranks -/
def rankN (mk : Nat → Nat) (nM k : Nat) : Nat := cnt (fun j => decide (mk j < k)) nM
theorem cnt_off2 {f g : Nat → Bool} {n i : Nat} (hi : i < n) (h1 : f i = true) (h2 : g i = false) (h : ∀ j, j < n → j ≠ i → g j = f j) : cnt g n + 1 = cnt f n := by
  induction n with
  | zero => omega
  | succ n ih =>
    unfold cnt
    by_cases hq : i = n
    · subst hq
      rw [cnt_congr (f := g) (g := f) (fun j hj => h j (by omega) (by omega)), h1, h2]
      simp
    · rw [h n (by omega) (Ne.symm hq)]
      have := ih (by omega) (fun j hj => h j (by omega))
      omega
theorem cnt_mono {f g : Nat → Bool} {n : Nat} (h : ∀ j, j < n → f j = true → g j = true) : cnt f n ≤ cnt g n := by
  induction n with
  | zero => exact Nat.le_refl _
  | succ n ih =>
    unfold cnt
    have e := ih (fun j hj => h j (by omega))
    cases q : f n with
    | false => simp; split <;> omega
    | true => rw [h n (by omega) q]; simp; exact e
theorem cnt_true {f : Nat → Bool} {n : Nat} (h : ∀ j, j < n → f j = true) : cnt f n = n := by
  induction n with
  | zero => rfl
  | succ n ih => rw [cnt_st (h n (by omega)), ih (fun j hj => h j (by omega))]
variable {nM : Nat} {mk : Nat → Nat}
theorem rank_in (wm : WM nM mk) {j : Nat} (hj : j < nM) : rankN mk nM (mk j + 1) = rankN mk nM (mk j) + 1 := by
  unfold rankN
  refine (cnt_off2 hj (by simp) (by simp) (fun i hi hne => ?_)).symm
  have hn : mk i ≠ mk j := fun q => hne (wm.2.2 i j hi hj q)
  by_cases e : mk i < mk j
  · simp [e]; omega
  · simp [e]; omega
theorem rank_out {k : Nat} (h : ∀ j, j < nM → mk j ≠ k) : rankN mk nM (k + 1) = rankN mk nM k := cnt_congr (fun i hi => by
  have hn := h i hi
  by_cases e : mk i < k
  · simp [e]; omega
  · simp [e]; omega)
theorem rank_mono {a b : Nat} (h : a ≤ b) : rankN mk nM a ≤ rankN mk nM b := cnt_mono (fun j _ q => by simp at q ⊢; omega)
theorem rank_0 : rankN mk nM 0 = 0 := by
  unfold rankN
  rw [cnt_congr (g := fun _ => false) (fun j _ => by simp)]
  induction nM with
  | zero => rfl
  | succ n ih => rw [cnt_sf rfl, ih]
theorem rank_100 (wm : WM nM mk) : rankN mk nM 100 = nM := cnt_true (fun j hj => by simp [wm.2.1 j hj])
theorem rank_le (k : Nat) : rankN mk nM k ≤ nM := cnt_le _ _
theorem rank_step (wm : WM nM mk) (k : Nat) : rankN mk nM k < rankN mk nM (k + 1) ↔ ∃ j, j < nM ∧ mk j = k := by
  constructor
  · intro h
    by_cases q : ∃ j, j < nM ∧ mk j = k
    · exact q
    · rw [rank_out (fun j hj e => q ⟨j, hj, e⟩)] at h
      omega
  · rintro ⟨j, hj, rfl⟩
    rw [rank_in wm hj]
    omega
theorem rank_at (wm : WM nM mk) : ∀ n i, i < rankN mk nM n → ∃ k, k < n ∧ rankN mk nM k = i ∧ rankN mk nM k < rankN mk nM (k + 1) := by
  intro n
  induction n with
  | zero => intro i hi; rw [rank_0] at hi; omega
  | succ n ih =>
    intro i hi
    by_cases q : i < rankN mk nM n
    · obtain ⟨k, h1, h2⟩ := ih i q
      exact ⟨k, by omega, h2⟩
    · refine ⟨n, by omega, ?_, by omega⟩
      by_cases e : ∃ j, j < nM ∧ mk j = n
      · obtain ⟨j, hj, rfl⟩ := e
        rw [rank_in wm hj] at hi
        omega
      · rw [rank_out (fun j hj z => e ⟨j, hj, z⟩)] at hi
        omega
end SEG

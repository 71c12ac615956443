/-! view -/
section OPV
variable {X c : Nat} {m : Mem}
theorem b_cp {β : Type} {K : Unit → HM β} {a b : Nat} (h1 : mK m a = 5) (h2 : mK m b = 5) (h3 : a ≠ b) (h4 : mN m a = 100) (h5 : mN m b = 100) : bnd (cp a 0 b 0 100) K m = K () (cpyI m a b) := by
  unfold bnd cp
  rw [if_pos ⟨⟨h1, h2, h3⟩, ⟨h4, h5⟩, rfl, rfl, rfl⟩]
theorem b2i_t : ¬ b2i true = 0 := by decide
theorem view_x (hL : SL X m) {vo : Nat → Bool} (hv : ∀ w, w < 4 → mI m (X + 11) w = b2i (vo w)) {w0 : Nat} (h0 : ∀ w, w < w0 → vo w = true) (hw : w0 < 4) (h1 : vo w0 = false) : ∀ d f k, k + d = w0 → d < f → f_X3_view_L2 f X (nI k) m = some (nI w0, cpyI (setI m (X + 11) w0 1) (X + 1) (X + 7 + w0)) := by
  intro d
  induction d with
  | zero =>
    intro f k hk hf
    obtain ⟨f, rfl⟩ : ∃ g, f = g + 1 := ⟨f - 1, by omega⟩
    have : k = w0 := by omega
    subst this
    have hL1 : SL X (setI m (X + 11) k 1) := hL
    unfold f_X3_view_L2
    rw [i_f (show ¬ (4 : Int32) ≤ nI k from leN (n := 4) hw (by decide)), q_gN0_10 hL, q_lI11 hL hw, hv k hw, h1, i_t (by rfl), q_gN0_10 hL, q_sI11 hL hw (Or.inr rfl), q_gN0_0 hL1, q_gN0_9 hL1, q_lR6 hL1 hw, b_cp (sk1 hL1) (kVW hL1 hw).1 (by omega) (sn1 hL1) (kVW hL1 hw).2]
    rfl
  | succ d ih =>
    intro f k hk hf
    obtain ⟨f, rfl⟩ : ∃ g, f = g + 1 := ⟨f - 1, by omega⟩
    unfold f_X3_view_L2
    rw [i_f (show ¬ (4 : Int32) ≤ nI k from leN (n := 4) (by omega) (by decide)), q_gN0_10 hL, q_lI11 hL (by omega), hv k (by omega), h0 k (by omega), i_f b2i_t, nI_1]
    exact ih f (k + 1) (by omega) (by omega)
theorem view_x4 (hL : SL X m) (hv : ∀ w, w < 4 → mI m (X + 11) w = 1) : ∀ d f k, k + d = 4 → d < f → f_X3_view_L2 f X (nI k) m = some (-4, m) := by
  intro d
  induction d with
  | zero =>
    intro f k hk hf
    obtain ⟨f, rfl⟩ : ∃ g, f = g + 1 := ⟨f - 1, by omega⟩
    have : k = 4 := by omega
    subst this
    unfold f_X3_view_L2
    rw [i_t (by decide)]; rfl
  | succ d ih =>
    intro f k hk hf
    obtain ⟨f, rfl⟩ : ∃ g, f = g + 1 := ⟨f - 1, by omega⟩
    unfold f_X3_view_L2
    rw [i_f (show ¬ (4 : Int32) ≤ nI k from leN (n := 4) (by omega) (by decide)), q_gN0_10 hL, q_lI11 hL (by omega), hv k (by omega), i_f n10, nI_1]
    exact ih f (k + 1) (by omega) (by omega)
theorem view_q (hL : SL X m) {vo : Nat → Bool} (hv : ∀ w, w < 4 → mI m (X + 34) w = b2i (vo w)) {w0 : Nat} (h0 : ∀ w, w < w0 → vo w = true) (hw : w0 ≤ 4) (h1 : w0 < 4 → vo w0 = false) : ∀ d f k, k + d = w0 → d < f → f_X4_view_L7 f (X + 12) (nI k) m = some (nI w0, m) := by
  intro d
  induction d with
  | zero =>
    intro f k hk hf
    obtain ⟨f, rfl⟩ : ∃ g, f = g + 1 := ⟨f - 1, by omega⟩
    have : k = w0 := by omega
    subst this
    unfold f_X4_view_L7
    by_cases h4 : k = 4
    · subst h4
      rw [i_t (by decide)]; rfl
    · rw [i_f (show ¬ (4 : Int32) ≤ nI k from leN (n := 4) (by omega) (by decide)), q_gN12_32 hL, q_lI34 hL (by omega), hv k (by omega), h1 (by omega), i_t (by rfl)]; rfl
  | succ d ih =>
    intro f k hk hf
    obtain ⟨f, rfl⟩ : ∃ g, f = g + 1 := ⟨f - 1, by omega⟩
    unfold f_X4_view_L7
    rw [i_f (show ¬ (4 : Int32) ≤ nI k from leN (n := 4) (by omega) (by decide)), q_gN12_32 hL, q_lI34 hL (by omega), hv k (by omega), h0 k (by omega), i_f b2i_t, nI_1]
    exact ih f (k + 1) (by omega) (by omega)
theorem view_cp {v : Nat → Int32} {w : Nat} (hw : w < 4) : ∀ d f k (m : Mem), SL X m → (∀ k, k < 100 → mI m (X + 13) k = v k) → k + d = 100 → d < f → ∃ m2, f_X4_view_L44 f (X + 12) (nI w) (nI k) m = some (nI 100, m2) ∧ Ag (fun b j => b = X + 35 ∧ 100 * w + k ≤ j ∧ j < 100 * w + 100) m m2 ∧ ∀ j, k ≤ j → j < 100 → mI m2 (X + 35) (100 * w + j) = v j := by
  intro d
  induction d with
  | zero =>
    intro f k m hL hv hk hf
    obtain ⟨f, rfl⟩ : ∃ g, f = g + 1 := ⟨f - 1, by omega⟩
    have : k = 100 := by omega
    subst this
    refine ⟨m, ?_, Ag.refl, fun j h1 h2 => absurd h1 (by omega)⟩
    unfold f_X4_view_L44
    rw [i_t (by decide)]; rfl
  | succ d ih =>
    intro f k m hL hv hk hf
    obtain ⟨f, rfl⟩ : ∃ g, f = g + 1 := ⟨f - 1, by omega⟩
    have hL1 : SL X (setI m (X + 35) (100 * w + k) (v k)) := hL
    obtain ⟨m2, e1, e2, e3⟩ := ih f (k + 1) _ hL1 (fun j hj => by rw [mI_setI, if_neg (by omega)]; exact hv j hj) (by omega) (by omega)
    refine ⟨m2, ?_, (Ag.setI.trans e2).mono (fun b j q => by omega), fun j h1 h2 => ?_⟩
    · unfold f_X4_view_L44
      rw [i_f (show ¬ (100 : Int32) ≤ nI k from leN (n := 100) (by omega) (by decide)), q_gN12_33 hL, q_gN12_1 hL, q_lI13 hL (by omega), hv k (by omega), nI100, q_sI35 hL (by omega), nI_1]
      exact e1
    · by_cases q : j = k
      · subst q
        rw [e2.2.2.2.2 _ _ (by omega), mI_setI, if_pos ⟨rfl, rfl⟩]
      · exact e3 j (by omega) h2
theorem op_view (h : Inv X c m) : ∃ r m1 m2, cl 3 X (f_X3_view X) m = some (r, m1) ∧ cl 4 (X + 12) (f_X4_view (X + 12)) m1 = some (r, m2) ∧ Inv X (c + 1) m2 := by
  have hI := h
  have hL := h.1
  obtain ⟨-, ⟨vo, vv, rw1, ww⟩, nS, nn, us, od, sa, sz, num, ti, rk, rv, lv, v, nM, mk, loc, tt, gn, ca, -, hIL, -⟩ := h
  have hfree : (∃ w0, w0 < 4 ∧ (∀ w, w < w0 → vo w = true) ∧ vo w0 = false) ∨ ∀ w, w < 4 → vo w = true := by
    cases h0 : vo 0 with
    | false => exact Or.inl ⟨0, by decide, fun w hw => absurd hw (by omega), h0⟩
    | true =>
      cases h1 : vo 1 with
      | false => exact Or.inl ⟨1, by decide, fun w hw => by rw [show w = 0 by omega]; exact h0, h1⟩
      | true =>
        cases h2 : vo 2 with
        | false => exact Or.inl ⟨2, by decide, fun w hw => by rcases (show w = 0 ∨ w = 1 by omega) with rfl | rfl <;> assumption, h2⟩
        | true =>
          cases h3 : vo 3 with
          | false => exact Or.inl ⟨3, by decide, fun w hw => by rcases (show w = 0 ∨ w = 1 ∨ w = 2 by omega) with rfl | rfl | rfl <;> assumption, h3⟩
          | true => exact Or.inr (fun w hw => by rcases (show w = 0 ∨ w = 1 ∨ w = 2 ∨ w = 3 by omega) with rfl | rfl | rfl | rfl <;> assumption)
  rcases hfree with ⟨w0, hw, h0, h1⟩ | hall
  · obtain ⟨m1, hm1⟩ : ∃ m1, m1 = cpyI (setI m (X + 11) w0 1) (X + 1) (X + 7 + w0) := ⟨_, rfl⟩
    have hL1 : SL X m1 := by rw [hm1]; exact SL_cpyI (SL_setI hL)
    have hA1 : Ag (fun b j => (b = X + 11 ∧ j = w0) ∨ b = X + 7 + w0) m m1 := by
      rw [hm1]
      refine ⟨rfl, rfl, rfl, rfl, fun b j q => ?_⟩
      rw [mI_cpyI, if_neg (by omega), mI_setI, if_neg (by omega)]
    obtain ⟨m2, hm2⟩ : ∃ m2, m2 = setI (setI m1 (X + 12) 0 0) (X + 34) w0 1 := ⟨_, rfl⟩
    have hL2 : SL X (setI m1 (X + 12) 0 0) := hL1
    have hL3 : SL X m2 := by rw [hm2]; exact hL1
    have hA2 : Ag (fun b j => (b = X + 12 ∧ j = 0) ∨ (b = X + 34 ∧ j = w0)) m1 m2 := by
      rw [hm2]
      exact (Ag.setI.trans Ag.setI).mono (fun b j q => by omega)
    obtain ⟨m3, e3, hA3, hv3⟩ := view_cp (v := v) hw 100 2100 0 m2 hL3 (fun k hk => by rw [hA2.2.2.2.2 _ _ (by omega), hA1.2.2.2.2 _ _ (by omega)]; exact (hIL.1 k hk).2) (by omega) (by omega)
    have hA := ((hA1.trans hA2).trans hA3).mono (T := fun b j => (b = X + 11 ∧ j = w0) ∨ b = X + 7 + w0 ∨ (b = X + 12 ∧ j = 0) ∨ (b = X + 34 ∧ j = w0) ∨ (b = X + 35 ∧ 100 * w0 ≤ j ∧ j < 100 * w0 + 100)) (fun b j q => by omega)
    refine ⟨nI w0, m1, m3, ?_, ?_, ?_⟩
    · rw [q_ce0 hL, hm1]
      exact view_x hL (fun w hw => (rw1 w hw).1.1) h0 hw h1 w0 2100 0 (by omega) (by omega)
    · rw [q_ce12 hL1]
      unfold f_X4_view
      rw [q_pI12 hL1, b_eq (show f_X4_view_L7 2100 (X + 12) 0 (setI m1 (X + 12) 0 0) = _ from view_q hL2 (vo := vo) (fun w hw => by rw [mI_setI, if_neg (by omega), hA1.2.2.2.2 _ _ (by omega)]; exact (rw1 w hw).1.2) h0 (by omega) (fun _ => h1) w0 2100 0 (by omega) (by omega)), i_f (show ¬ nI w0 = (4 : Int32) from fun q => by
        have := (nI_eq (a := w0) (b := 4) (by omega) (by decide)).mp q
        omega), q_gN12_32 hL2, q_sI34 hL2 hw (Or.inr rfl), ← hm2, b_eq (show f_X4_view_L44 2100 (X + 12) (nI w0) 0 m2 = _ from e3)]
      rfl
    · refine Inv_views hI hA (fun b j q => by omega) ⟨va_up vo w0 true, va_up vv w0 v, fun w hw2 => ?_, fun w hw2 ho => ?_⟩
      · by_cases q : w = w0
        · subst q
          refine ⟨⟨?_, ?_⟩, fun _ k hk => ⟨?_, ?_⟩⟩
          · rw [hA3.2.2.2.2 _ _ (by omega), hA2.2.2.2.2 _ _ (by omega), hm1, mI_cpyI, if_neg (by omega), mI_setI, if_pos ⟨rfl, rfl⟩]; simp [va_up, b2i]
          · rw [hA3.2.2.2.2 _ _ (by omega), hm2, mI_setI, if_pos ⟨rfl, rfl⟩]; simp [va_up, b2i]
          · rw [hA3.2.2.2.2 _ _ (by omega), hA2.2.2.2.2 _ _ (by omega), hm1, mI_cpyI, if_pos ⟨rfl, hk⟩, mI_setI, if_neg (by omega), (hIL.1 k hk).1]; simp [va_up]
          · rw [hv3 k (by omega) hk]; simp [va_up]
        · have e5 : va_up vo w0 true w = vo w := by simp [va_up, q]
          have e6 : va_up vv w0 v w = vv w := by simp [va_up, q]
          rw [e5, e6]
          refine ⟨⟨by rw [hA.2.2.2.2 _ _ (by omega)]; exact (rw1 w hw2).1.1, by rw [hA.2.2.2.2 _ _ (by omega)]; exact (rw1 w hw2).1.2⟩, fun ho k hk => ?_⟩
          rw [hA.2.2.2.2 _ _ (by omega), hA.2.2.2.2 _ _ (by omega)]
          exact (rw1 w hw2).2 ho k hk
      · intro k hk
        by_cases q : w = w0
        · subst q
          simp only [va_up, if_true]
          exact hIL.2.1 k hk
        · have e5 : va_up vo w0 true w = vo w := by simp [va_up, q]
          have e6 : va_up vv w0 v w = vv w := by simp [va_up, q]
          rw [e6]
          rw [e5] at ho
          exact ww w hw2 ho k hk
  · refine op_q hI ⟨-4, ?_, ?_⟩
    · exact view_x4 hL (fun w hw => by rw [(rw1 w hw).1.1, hall w hw]; rfl) 4 2100 0 (by omega) (by omega)
    · have hL2 : SL X (setI m (X + 12) 0 0) := hL
      unfold f_X4_view
      rw [q_pI12 hL, b_eq (show f_X4_view_L7 2100 (X + 12) 0 (setI m (X + 12) 0 0) = _ from view_q hL2 (vo := vo) (fun w hw => by rw [mI_setI, if_neg (by omega)]; exact (rw1 w hw).1.2) (w0 := 4) hall (by omega) (fun q => absurd q (by omega)) 4 2100 0 (by omega) (by omega)), i_t (by rfl)]
      rfl
end OPV

/-! count, stop, view, shut -/
theorem sum_zero {f : Nat → Nat} {n : Nat} (h : ∀ j, j < n → f j = 0) : sumF f n = 0 := by
  induction n with
  | zero => rfl
  | succ n ih =>
    show sumF f n + f n = 0
    rw [ih (fun j hj => h j (by omega)), h n (by omega)]
theorem sum_one {f : Nat → Nat} {n j0 : Nat} (hj : j0 < n) (h1 : f j0 = 1) (h : ∀ j, j < n → j ≠ j0 → f j = 0) : sumF f n = 1 := by
  induction n with
  | zero => omega
  | succ n ih =>
    show sumF f n + f n = 1
    by_cases q : j0 = n
    · subst q
      rw [sum_zero (fun j hj => h j (by omega) (by omega)), h1]
    · rw [ih (by omega) (fun j h2 h3 => h j (by omega) h3), h n (by omega) (Ne.symm q)]
theorem sum_ones (n : Nat) : sumF (fun _ => 1) n = n := by
  induction n with
  | zero => rfl
  | succ n ih =>
    show sumF (fun _ => 1) n + 1 = n + 1
    rw [ih]
theorem sum_add (f g : Nat → Nat) (n : Nat) : sumF (fun k => f k + g k) n = sumF f n + sumF g n := by
  induction n with
  | zero => rfl
  | succ n ih =>
    show sumF (fun k => f k + g k) n + (f n + g n) = sumF f n + f n + (sumF g n + g n)
    rw [ih]
    omega
theorem sum_swap (f : Nat → Nat → Nat) (a b : Nat) : sumF (fun i => sumF (fun j => f i j) b) a = sumF (fun j => sumF (fun i => f i j) a) b := by
  induction a with
  | zero =>
    exact (sum_zero (f := fun j => sumF (fun i => f i j) 0) (fun j _ => rfl)).symm
  | succ a ih =>
    show sumF (fun i => sumF (fun j => f i j) b) a + sumF (fun j => f a j) b = _
    rw [ih, ← sum_add]
    rfl
theorem cnt_sum (f : Nat → Bool) (n : Nat) : cnt f n = sumF (fun k => if f k = true then 1 else 0) n := by
  induction n with
  | zero => rfl
  | succ n ih =>
    show cnt f n + _ = sumF _ n + _
    rw [ih]
/-- the keys that have a value are the memory's rows and the living ones -/
theorem count_keys {v : Nat → Int32} {nM nS : Nat} {mk od sz : Nat → Nat} {us : Nat → Bool} {rk : Nat → Nat → Nat} {lv : Nat → Nat → Bool} {loc : Nat → Option (Nat × Nat)} (wm : WM nM mk) (wo : WO nS od us) (ws : WS us sz rk) (wl : WL v nM mk us sz rk lv loc) : cnt (fun k => decide (v k ≠ -1)) 100 = nM + sumF (fun p => cnt (lv (od p)) (sz (od p))) nS := by
  have hk : ∀ k, k < 100 → (if decide (v k ≠ -1) = true then 1 else 0) = sumF (fun j => if mk j = k then 1 else 0) nM + sumF (fun p => sumF (fun i => if lv (od p) i = true ∧ rk (od p) i = k then 1 else 0) (sz (od p))) nS := by
    intro k hk
    by_cases hv : v k ≠ -1
    · rw [if_pos (by simpa using hv)]
      rcases (wl.2.2.1 k hk).mp hv with ⟨j, hj, ej⟩ | hl
      · have hn : loc k = none := by rw [← ej]; exact wl.2.2.2 j hj
        rw [sum_one (j0 := j) hj (by rw [if_pos ej]) (fun i hi hne => by rw [if_neg (fun q => hne (wm.2.2 i j hi hj (q.trans ej.symm)))]), sum_zero (fun p hp => sum_zero (fun i hi => ?_))]
        rw [if_neg (fun q => ?_)]
        have := wl.2.1 (od p) i (wo.2.1 p hp).2 hi q.1
        rw [q.2, hn] at this
        cases this
      · obtain ⟨⟨s, i⟩, hsi⟩ := Option.ne_none_iff_exists'.mp hl
        obtain ⟨q1, q2, q3, q4, q5⟩ := wl.1 k s i hk hsi
        obtain ⟨p, hp, ep⟩ := wo.2.2.2 s q1
        rw [sum_zero (fun j hj => by
          rw [if_neg (fun q => ?_)]
          have := wl.2.2.2 j hj
          rw [q, hsi] at this
          cases this)]
        rw [sum_one (j0 := p) hp]
        · rw [ep]
          refine sum_one (j0 := i) q3 (by rw [if_pos ⟨q5, q4⟩]) (fun i2 hi2 hne => by
            rw [if_neg (fun q => hne ?_)]
            have := wl.2.1 s i2 q1 hi2 q.1
            rw [q.2, hsi] at this
            cases this
            rfl)
        · intro p2 hp2 hne
          refine sum_zero (fun i2 hi2 => ?_)
          rw [if_neg (fun q => hne ?_)]
          have := wl.2.1 (od p2) i2 (wo.2.1 p2 hp2).2 hi2 q.1
          rw [q.2, hsi] at this
          have e2 : s = od p2 := by cases this; rfl
          exact wo.2.2.1 p2 p hp2 hp (by rw [ep, e2])
    · rw [if_neg (by simpa using hv)]
      have hno : ¬ ((∃ j, j < nM ∧ mk j = k) ∨ loc k ≠ none) := fun q => hv ((wl.2.2.1 k hk).mpr q)
      rw [sum_zero (fun j hj => by rw [if_neg (fun q => hno (Or.inl ⟨j, hj, q⟩))]), sum_zero (fun p hp => sum_zero (fun i hi => by
        rw [if_neg (fun q => ?_)]
        have := wl.2.1 (od p) i (wo.2.1 p hp).2 hi q.1
        rw [q.2] at this
        exact hno (Or.inr (by rw [this]; simp))))]
  rw [cnt_sum, sumF_congr hk, sum_add, sum_swap]
  have e1 : sumF (fun j => sumF (fun i => if mk j = i then 1 else 0) 100) nM = nM := by
    rw [sumF_congr (g := fun _ => 1) (fun j hj => sum_one (j0 := mk j) (wm.2.1 j hj) (by rw [if_pos rfl]) (fun i _ hne => by rw [if_neg (fun q => hne q.symm)]))]
    exact sum_ones nM
  rw [e1]
  congr 1
  rw [sum_swap]
  refine sumF_congr (fun p hp => ?_)
  rw [sum_swap, cnt_sum]
  refine sumF_congr (fun i hi => ?_)
  by_cases hl : lv (od p) i = true
  · rw [if_pos hl, sum_one (j0 := rk (od p) i) ((ws _ (wo.2.1 p hp).2).2.1 i hi) (by rw [if_pos ⟨hl, rfl⟩]) (fun k _ hne => by rw [if_neg (fun q => hne q.2.symm)])]
  · rw [if_neg hl, sum_zero (fun k _ => by rw [if_neg (fun q => hl q.1)])]
section OPS7
variable {X c : Nat} {m : Mem}
theorem count_q (hL : SL X m) {v : Nat → Int32} (hv : ∀ k, k < 100 → mI m (X + 13) k = v k) (hw : WV v) (a : Int32) : f_X4_count_L9 2100 (X + 12) a 0 0 m = some ((nI (cnt (fun k => decide (v k ≠ -1)) 100), nI 100), m) := by
  have L : ∀ d f k, k + d = 100 → d < f → f_X4_count_L9 f (X + 12) a (nI (cnt (fun k => decide (v k ≠ -1)) k)) (nI k) m = some ((nI (cnt (fun k => decide (v k ≠ -1)) 100), nI 100), m) := by
    intro d
    induction d with
    | zero =>
      intro f k hk hf
      obtain ⟨f, rfl⟩ : ∃ g, f = g + 1 := ⟨f - 1, by omega⟩
      have : k = 100 := by omega
      subst this
      unfold f_X4_count_L9
      rw [i_t (show (100 : Int32) ≤ nI 100 by decide)]
      rfl
    | succ d ih =>
      intro f k hk hf
      obtain ⟨f, rfl⟩ : ∃ g, f = g + 1 := ⟨f - 1, by omega⟩
      have hi := ih f (k + 1) (by omega) (by omega)
      unfold f_X4_count_L9
      rw [i_f (show ¬ (100 : Int32) ≤ nI k from leN (n := 100) (by omega) (by decide)), q_gN12_1 hL, q_lI13 hL (by omega), hv k (by omega), nI_1]
      by_cases q : v k = -1
      · rw [i_t ((hw k (by omega)).neg.mpr q), nI_p0]
        rw [cnt_sf (by simpa using q)] at hi
        exact hi
      · rw [i_f (fun z => q ((hw k (by omega)).neg.mp z)), nI_1]
        rw [cnt_st (by simpa using q)] at hi
        exact hi
  exact L 100 2100 0 (by omega) (by omega)
theorem op_count (h : Inv X c m) (hc : c ≤ 4096) (a : Int32) : ∃ r m1 m2, cl 3 X (f_X3_count X a) m = some (r, m1) ∧ cl 4 (X + 12) (f_X4_count (X + 12) a) m1 = some (r, m2) ∧ Inv X (c + 1) m2 := by
  refine op_q h ?_
  have hL := h.1
  obtain ⟨-, -, nS, nn, us, od, sa, sz, num, ti, rk, rv, lv, v, nM, mk, loc, tt, gn, ca, hIS, hIL, -, -⟩ := h
  have hL2 : SL X (setI m (X + 12) 0 0) := hL
  have hIL2 : IL X us sa sz rk lv v nM mk loc tt (setI m (X + 12) 0 0) := IL_t hIL (IS_sa hIS).1
  have hIS2 : IS X c nS nn us od sa sz num ti rk rv (setI m (X + 12) 0 0) := IS_t hIS
  obtain ⟨s1, s2, s3, s4, s5, F, rn, wn⟩ := hIS
  obtain ⟨t1, t2, -, -, -, F2, rn2, -⟩ := hIS2
  have hx : PX X nS (fun p => sa (od p)) (fun p => ti (od p)) (fun p => sz (od p)) (fun p => cnt (lv (od p)) (sz (od p))) m := ⟨hL, s1.1.1, s3.1, fun p hp => by
    obtain ⟨o1, o2⟩ := s3.2.1 p hp
    obtain ⟨⟨⟨y1, y2, y3, y4, y5⟩, ⟨y6, y7, y8, y9⟩, ⟨z1, z2, z3, z4⟩, ⟨z5, z6, z7⟩, z8⟩, -⟩ := s2 _ o2
    have hz := (s4 _ o2).1
    have hq := cnt_le (lv (od p)) (sz (od p))
    exact ⟨(s1.2.1 p hp).1, y1, z6, z7, (hIL.2.2.2.2.1 _ o2).1.1, hz, Nat.le_trans hq hz, Nat.le_trans (wn.2.2.1 _ o2).2 hc⟩⟩
  have hq : PQ X nS od (fun p => ti (od p)) (fun p => sz (od p)) (fun p => cnt (lv (od p)) (sz (od p))) (setI m (X + 12) 0 0) := ⟨hL2, t1.1.2, s3.1, fun p hp => by
    obtain ⟨o1, o2⟩ := s3.2.1 p hp
    obtain ⟨-, ⟨⟨x1, x2, x3⟩, x4⟩⟩ := t2 _ o2
    have hz := (s4 _ o2).1
    have hq := cnt_le (lv (od p)) (sz (od p))
    exact ⟨(t1.2.1 p hp).2, o1, x2, x3, living_eq hL2 o1 x3 hz (hIL2.2.2.2.2.1 _ o2).2, hz, Nat.le_trans hq hz, Nat.le_trans (wn.2.2.1 _ o2).2 hc⟩⟩
  have el := living_x hx (p := 0) (n := nS) (by omega)
  rw [show sumF (fun k => cnt (lv (od (0 + k))) (sz (od (0 + k)))) nS = sumF (fun p => cnt (lv (od p)) (sz (od p))) nS from sumF_congr (fun k _ => by rw [Nat.zero_add])] at el
  have el : f_X3_livingFrom X 0 (nI nS) m = some (nI (sumF (fun p => cnt (lv (od p)) (sz (od p))) nS), m) := el
  have er := rows_x hx
  have ec := count_q hL2 (fun k hk => (hIL2.1 k hk).2) hIL.2.1 a
  have hcnt := count_keys hIL.2.2.2.1 s3 s4 hIL.2.2.2.2.2.2
  unfold f_X3_count f_X4_count
  rw [q_pI12 hL]
  by_cases a0 : a = 0
  · refine ⟨nI nM, ?_, ?_⟩
    · rw [i_t a0, q_gN0_1 hL, q_gI2 hL, hIL.2.2.1.1.1]; rfl
    · rw [b_eq ec, i_t a0, q_gI12 hL2, hIL2.2.2.1.1.2]; rfl
  · by_cases a1 : a = 1
    · refine ⟨nI nS, ?_, ?_⟩
      · rw [i_f a0, i_t a1, q_gI0 hL, s1.1.1]; rfl
      · rw [b_eq ec, i_f a0, i_t a1, q_gI12 hL2, t1.1.2]; rfl
    · by_cases a2 : a = 2
      · refine ⟨nI (sumF (fun p => sz (od p)) nS), ?_, ?_⟩
        · rw [i_f a0, i_f a1, i_t a2, q_cl0 hL, b_eq er]; rfl
        · rw [b_eq ec, i_f a0, i_f a1, i_t a2, q_cl12 hL2, b_eq (all_q0 hq)]; rfl
      · by_cases a3 : a = 3
        · refine ⟨nI (sumF (fun p => cnt (lv (od p)) (sz (od p))) nS), ?_, ?_⟩
          · rw [i_f a0, i_f a1, i_f a2, i_t a3, q_gI0 hL, s1.1.1, q_cl0 hL, b_eq el]; rfl
          · rw [b_eq ec, i_f a0, i_f a1, i_f a2, i_t a3, q_cl12 hL2, b_eq (all_q1 hq)]; rfl
        · by_cases a4 : a = 4
          · refine ⟨mI m X 5, ?_, ?_⟩
            · rw [i_f a0, i_f a1, i_f a2, i_f a3, i_t a4, q_gI0 hL]; rfl
            · rw [b_eq ec, i_f a0, i_f a1, i_f a2, i_f a3, i_t a4, q_gI12 hL2, mI_setI, if_neg (by omega), ← rn.2.1]; rfl
          · by_cases a5 : a = 5
            · refine ⟨nI (cnt (fun k => decide (v k ≠ -1)) 100), ?_, ?_⟩
              · rw [i_f a0, i_f a1, i_f a2, i_f a3, i_f a4, i_t a5, q_gN0_1 hL, q_gI2 hL, hIL.2.2.1.1.1, q_gI0 hL, s1.1.1, q_cl0 hL, b_eq el, nI_add, ← hcnt]; rfl
              · rw [b_eq ec, i_f a0, i_f a1, i_f a2, i_f a3, i_f a4, i_t a5]; rfl
            · refine ⟨-2, ?_, ?_⟩
              · rw [i_f a0, i_f a1, i_f a2, i_f a3, i_f a4, i_f a5]; rfl
              · rw [b_eq ec, i_f a0, i_f a1, i_f a2, i_f a3, i_f a4, i_f a5]; rfl
end OPS7

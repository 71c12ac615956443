/-! a key's rows die: Segment.kill, killRowOf, the reference's die and memoryAt -/
section OPK
variable {X c : Nat} {m : Mem}
theorem va_s {α : Type} {f : Nat → α} {k : Nat} {x : α} : va_up f k x k = x := by simp [va_up]
theorem va_n {α : Type} {f : Nat → α} {k j : Nat} {x : α} (h : j ≠ k) : va_up f k x j = f j := by simp [va_up, h]
theorem SgL_c {a sz : Nat} {lv lv2 : Nat → Bool} (h : SgL m a sz lv) (e : ∀ i, i < sz → lv i = lv2 i) : SgL m a sz lv2 := ⟨by rw [← cnt_congr e]; exact h.1, fun i hi => by rw [← e i hi]; exact h.2 i hi⟩
def killed (lv : Nat → Bool) (rk : Nat → Nat) (k : Nat) : Nat → Bool := fun i => lv i && decide (rk i ≠ k)
theorem killed_t {lv : Nat → Bool} {rk : Nat → Nat} {k i : Nat} : killed lv rk k i = true ↔ lv i = true ∧ rk i ≠ k := by simp [killed]
theorem killed_n {lv : Nat → Bool} {rk : Nat → Nat} {k i : Nat} (h : lv i = true → rk i ≠ k) : killed lv rk k i = lv i := by
  cases q : lv i with
  | false => simp [killed, q]
  | true => simp [killed, q, h q]
theorem killed_f {lv : Nat → Bool} {rk : Nat → Nat} {k i : Nat} (h : rk i = k) : killed lv rk k i = false := by simp [killed, h]
theorem kill_spec {a num ti sz k : Nat} {rk : Nat → Nat} {rv : Nat → Int32} (hs : sz ≤ 100) (hr : ∀ i, i < sz → rk i < 100) (ho : ∀ i j, i < j → j < sz → rk i < rk j) (hk : k < 100) : ∀ d f i (m : Mem) (lv : Nat → Bool), i + d = sz → d < f → SgS m a num ti sz rk rv → SgL m a sz lv → (∀ j, j < i → lv j = true → rk j ≠ k) →
    ∃ r m2, f_X2_kill_L2 f a (nI k) (nI i) m = some (r, m2) ∧ Ag (fun b j => (b = a ∧ j = 7) ∨ b = a + 3) m m2 ∧ SgL m2 a sz (killed lv rk k) := by
  intro d
  induction d with
  | zero =>
    intro f i m lv hi hf hS hV hj
    obtain ⟨f, rfl⟩ : ∃ g, f = g + 1 := ⟨f - 1, by omega⟩
    have : i = sz := by omega
    subst this
    refine ⟨nI i, m, ?_, Ag.refl, SgL_c hV (fun j h => (killed_n (hj j h)).symm)⟩
    unfold f_X2_kill_L2
    rw [b_gI hS.1.1, hS.2.2.2.1.2.2, i_t (leL (Nat.le_refl _) (by omega))]; rfl
  | succ d ih =>
    intro f i m lv hi hf hS hV hj
    obtain ⟨f, rfl⟩ : ∃ g, f = g + 1 := ⟨f - 1, by omega⟩
    have hi2 : i < sz := by omega
    obtain ⟨⟨k0, k1, k2, k3, k4⟩, ⟨c1, c2, c3, c4⟩, ⟨n1, n2, n3, n4⟩, ⟨t1, t2, t3⟩, t5⟩ := id hS
    have hri := hr i hi2
    by_cases hq : k < rk i
    · refine ⟨nI i, m, ?_, Ag.refl, SgL_c hV (fun j h => ?_)⟩
      · unfold f_X2_kill_L2
        rw [b_gI k0, t3, i_f (leN hi2 (by omega)), b_gN k0 k1, b_lI c1 n1 hi2 (by omega), (t5 i hi2).1, i_t ((nI_ltI (by omega) (by omega)).mpr hq)]; rfl
      · by_cases hji : j < i
        · exact (killed_n (hj j hji)).symm
        · refine (killed_n (fun _ => ?_)).symm
          by_cases e : j = i
          · rw [e]; omega
          · have := ho i j (by omega) h
            omega
    · have g1 : ¬ nI k < nI (rk i) := ltL (by omega) (by omega)
      by_cases he : rk i = k
      · cases hl : lv i with
        | false =>
          obtain ⟨r, m2, e1, e2, e3⟩ := ih f (i + 1) m lv (by omega) (by omega) hS hV (fun j h9 h8 => by
            rcases Nat.lt_succ_iff_lt_or_eq.mp h9 with g | g
            · exact hj j g h8
            · rw [g, hl] at h8; cases h8)
          refine ⟨r, m2, ?_, e2, e3⟩
          unfold f_X2_kill_L2
          rw [b_gI k0, t3, i_f (leN hi2 (by omega)), b_gN k0 k1, b_lI c1 n1 hi2 (by omega), (t5 i hi2).1, i_f g1, b_gN k0 k1, b_lI c1 n1 hi2 (by omega), (t5 i hi2).1, i_t (by rw [he]), b_gN k0 k3, b_lI c3 n3 hi2 (by omega), hV.2 i hi2, hl, i_t (by rfl), nI_1]
          exact e1
        | true =>
          have hc0 : cnt (va_up lv i false) sz + 1 = cnt lv sz := cnt_off hi2 hl va_s (fun j h => va_n h)
          have hV2 : SgL (setI (setI m (a + 3) i 0) a 7 (nI (cnt lv sz) - 1)) a sz (va_up lv i false) := by
            refine ⟨?_, fun j hj2 => ?_⟩
            · rw [mI_setI, if_pos ⟨rfl, rfl⟩, ← hc0, nI_pred]
            · rw [mI_setI, if_neg (by omega), mI_setI]
              by_cases e : j = i
              · rw [if_pos ⟨rfl, e⟩, e, va_s]; rfl
              · rw [if_neg (by omega), va_n e]; exact hV.2 j hj2
          have hA2 : Ag (fun b j => (b = a ∧ j = 7) ∨ b = a + 3) m (setI (setI m (a + 3) i 0) a 7 (nI (cnt lv sz) - 1)) := (Ag.setI.trans Ag.setI).mono (fun b j q => by omega)
          obtain ⟨r, m2, e1, e2, e3⟩ := ih f (i + 1) _ _ (by omega) (by omega) (hA2.SgS hS ⟨fun k => ⟨by omega, by omega⟩, by omega, by omega, by omega⟩) hV2 (fun j h9 h8 => by
            rcases Nat.lt_succ_iff_lt_or_eq.mp h9 with g | g
            · rw [va_n (by omega)] at h8
              exact hj j g h8
            · rw [g, va_s] at h8; cases h8)
          refine ⟨r, m2, ?_, (hA2.trans e2).mono (fun b j q => by omega), SgL_c e3 (fun j h => ?_)⟩
          · unfold f_X2_kill_L2
            have k0' : mK (setI m (a + 3) i 0) a = 2 := k0
            rw [b_gI k0, t3, i_f (leN hi2 (by omega)), b_gN k0 k1, b_lI c1 n1 hi2 (by omega), (t5 i hi2).1, i_f g1, b_gN k0 k1, b_lI c1 n1 hi2 (by omega), (t5 i hi2).1, i_t (by rw [he]), b_gN k0 k3, b_lI c3 n3 hi2 (by omega), hV.2 i hi2, hl, i_f b2i_t, b_gN k0 k3, b_sZ c3 n3 hi2 (by omega) (Or.inl rfl), b_gI k0', mI_setI, if_neg (by omega), hV.1, b_pI k0', nI_1]
            exact e1
          · by_cases e : j = i
            · rw [killed_f (by rw [e]; exact he), killed_f (by rw [e]; exact he)]
            · unfold killed
              rw [va_n e]
      · obtain ⟨r, m2, e1, e2, e3⟩ := ih f (i + 1) m lv (by omega) (by omega) hS hV (fun j h9 h8 => by
          rcases Nat.lt_succ_iff_lt_or_eq.mp h9 with g | g
          · exact hj j g h8
          · rw [g]; exact he)
        refine ⟨r, m2, ?_, e2, e3⟩
        unfold f_X2_kill_L2
        rw [b_gI k0, t3, i_f (leN hi2 (by omega)), b_gN k0 k1, b_lI c1 n1 hi2 (by omega), (t5 i hi2).1, i_f g1, b_gN k0 k1, b_lI c1 n1 hi2 (by omega), (t5 i hi2).1, i_f (fun q => he ((nI_eq (by omega) (by omega)).mp q)), nI_1]
        exact e1
def killS (us : Nat → Bool) (sa : Nat → Nat) (b j : Nat) : Prop := ∃ s, us s = true ∧ ((b = sa s ∧ j = 7) ∨ b = sa s + 3)
theorem killRow_spec {nS k : Nat} {us : Nat → Bool} {od sa sz num ti : Nat → Nat} {rk : Nat → Nat → Nat} {rv : Nat → Nat → Int32} {top : Nat} (wo : WO nS od us) (ws : WS us sz rk) (wa : WA X top us sa) (hk : k < 100) : ∀ d f p (m : Mem) (lv : Nat → Nat → Bool), p + d = nS → d < f → SL X m → mI m X 3 = nI nS → (∀ p, p < nS → mR m (X + 5) p = some (sa (od p))) → (∀ s, us s = true → SgS m (sa s) (num s) (ti s) (sz s) (rk s) (rv s)) → (∀ s, us s = true → SgL m (sa s) (sz s) (lv s)) → (∀ q i, q < p → i < sz (od q) → lv (od q) i = true → rk (od q) i ≠ k) →
    ∃ r m2, f_X3_killRowOf_L2 f X (nI k) (nI p) m = some (r, m2) ∧ Ag (killS us sa) m m2 ∧ ∀ s, us s = true → SgL m2 (sa s) (sz s) (killed (lv s) (rk s) k) := by
  intro d
  induction d with
  | zero =>
    intro f p m lv hp hf hL h3 hR hS hV hj
    obtain ⟨f, rfl⟩ : ∃ g, f = g + 1 := ⟨f - 1, by omega⟩
    have : p = nS := by omega
    subst this
    refine ⟨nI p, m, ?_, Ag.refl, fun s hs => ?_⟩
    · unfold f_X3_killRowOf_L2
      rw [q_gI0 hL, h3, i_t (leL (Nat.le_refl _) (by have := wo.1; omega))]; rfl
    · obtain ⟨q, hq, rfl⟩ := wo.2.2.2 s hs
      exact SgL_c (hV _ hs) (fun i hi => (killed_n (hj q i hq hi)).symm)
  | succ d ih =>
    intro f p m lv hp hf hL h3 hR hS hV hj
    obtain ⟨f, rfl⟩ : ∃ g, f = g + 1 := ⟨f - 1, by omega⟩
    have hp2 : p < nS := by omega
    have h20 := wo.1
    have hu := (wo.2.1 p hp2).2
    obtain ⟨w1, w2, w3⟩ := ws _ hu
    obtain ⟨r, m1, e1, e2, e3⟩ := kill_spec w1 w2 w3 hk (sz (od p)) 2100 0 m (lv (od p)) (by omega) (by omega) (hS _ hu) (hV _ hu) (fun j h => absurd h (by omega))
    have hdj : ∀ s, us s = true → s ≠ od p → dj (sa s) 5 (sa (od p)) 5 := fun s hs hne => wa.2 s (od p) hs hu hne
    have hsa := fun s hs => (wa.1 s hs).1
    have hsp := hsa _ hu
    obtain ⟨r2, m2, g1, g2, g3⟩ := ih f (p + 1) m1 (va_up lv (od p) (killed (lv (od p)) (rk (od p)) k)) (by omega) (by omega) (e2.SL hL) (by rw [e2.2.2.2.2 _ _ (by omega)]; exact h3) (fun q hq => by rw [e2.2.2.1]; exact hR q hq) (fun s hs => by
        refine e2.SgS (hS s hs) ?_
        by_cases e : s = od p
        · subst e
          exact ⟨fun k => ⟨by omega, by omega⟩, by omega, by omega, by omega⟩
        · have := hdj s hs e
          unfold dj at this
          exact ⟨fun k => ⟨by omega, by omega⟩, by omega, by omega, by omega⟩) (fun s hs => by
        by_cases e : s = od p
        · subst e
          rw [va_s]; exact e3
        · have := hdj s hs e
          unfold dj at this
          rw [va_n e]
          exact ⟨by rw [e2.2.2.2.2 _ _ (by omega)]; exact (hV s hs).1, fun i hi => by rw [e2.2.2.2.2 _ _ (by omega)]; exact (hV s hs).2 i hi⟩) (fun q i hq hi hl => by
        by_cases e : od q = od p
        · rw [e, va_s] at hl
          rw [e]
          exact (killed_t.mp hl).2
        · rw [va_n e] at hl
          exact hj q i (by
            rcases Nat.lt_succ_iff_lt_or_eq.mp hq with g | g
            · exact g
            · rw [g] at e; exact absurd rfl e) hi hl)
    refine ⟨r2, m2, ?_, (e2.trans g2).mono (fun b j q => ?_), fun s hs => SgL_c (g3 s hs) (fun i hi => ?_)⟩
    · unfold f_X3_killRowOf_L2
      rw [q_gI0 hL, h3, i_f (leN hp2 (by omega)), q_gN0_2 hL, b_lR (sk5 hL) (sn5 hL) (by omega) (by decide) (hR p hp2), b_cl (hS _ hu).1.1, b_eq (show f_X2_kill (sa (od p)) (nI k) m = some ((), m1) from ?_), nI_1]
      · exact g1
      · unfold f_X2_kill
        rw [b_eq (show f_X2_kill_L2 2100 (sa (od p)) (nI k) 0 m = _ from e1)]; rfl
    · rcases q with q | q
      · exact ⟨od p, hu, q⟩
      · exact q
    · by_cases e : s = od p
      · subst e
        rw [va_s]
        unfold killed
        cases lv (od p) i <;> cases decide (rk (od p) i ≠ k) <;> rfl
      · rw [va_n e]
theorem die_spec (hL : SL X m) {loc : Nat → Option (Nat × Nat)} {tt : Nat → Nat} (hr : RLo X loc tt m) {k : Nat} (hk : k < 100) (hl : ∀ s i, loc k = some (s, i) → s < 21 ∧ i < 100) :
    ∃ m2, f_X4_die (X + 12) (nI k) m = some ((), m2) ∧ Ag (fun b j => (b = X + 25 ∧ ∃ s i, loc k = some (s, i) ∧ j = 100 * s + i) ∨ (b = X + 15 ∧ j = k)) m m2 ∧ mI m2 (X + 15) k = -1 ∧ ∀ s i, loc k = some (s, i) → mI m2 (X + 25) (100 * s + i) = 0 := by
  obtain ⟨r1, r2, r3⟩ := hr k hk
  cases hq : loc k with
  | none =>
    refine ⟨m, ?_, Ag.refl, r2 hq, fun s i h => by cases h⟩
    unfold f_X4_die
    rw [q_gN12_3 hL, q_lI15 hL hk, r2 hq, i_t m1_lt]; rfl
  | some z =>
    obtain ⟨s, i⟩ := z
    obtain ⟨hs, hi⟩ := hl s i hq
    obtain ⟨e1, e2⟩ := r3 s i hq
    have hL2 : SL X (setI m (X + 25) (100 * s + i) 0) := hL
    refine ⟨setI (setI m (X + 25) (100 * s + i) 0) (X + 15) k (-1), ?_, (Ag.setI.trans Ag.setI).mono (fun b j q => ?_), ?_, fun s2 i2 h => ?_⟩
    · unfold f_X4_die
      rw [q_gN12_3 hL, q_lI15 hL hk, e1, i_f (nI_lt0 (by omega)), q_gN12_15 hL, q_gN12_3 hL, q_lI15 hL hk, e1, q_gN12_4 hL, q_lI16 hL hk, e2, nI100, q_sI25 hL (by omega) (Or.inl rfl), q_gN12_3 hL2, q_sI15 hL2 hk]; rfl
    · rcases q with q | q
      · exact Or.inl ⟨q.1, s, i, rfl, q.2⟩
      · exact Or.inr q
    · rw [mI_setI, if_pos ⟨rfl, rfl⟩]
    · cases h
      rw [mI_setI, if_neg (by omega), mI_setI, if_pos ⟨rfl, rfl⟩]
theorem memAt_spec (hL : SL X m) {nM : Nat} {mk : Nat → Nat} (h5 : mI m (X + 12) 5 = nI nM) (hn : nM ≤ 6) (hm : ∀ j, j < nM → mI m (X + 17) j = nI (mk j)) (wm : WM nM mk) {k : Nat} (hk : k < 100) :
    ((∀ j, j < nM → mk j ≠ k) ∧ f_X4_memoryAt (X + 12) (nI k) m = some (-1, m)) ∨ ∃ j, j < nM ∧ mk j = k ∧ f_X4_memoryAt (X + 12) (nI k) m = some (nI j, m) := by
  have L : ∀ d f i (o : Option Nat), i + d = nM → d < f → (∀ j, o = some j → j < i ∧ mk j = k) → (o = none → ∀ j, j < i → mk j ≠ k) → ∃ (o2 : Option Nat) (x : Int32), f_X4_memoryAt_L4 f (X + 12) (nI k) (enc (-1) o) (nI i) m = some ((enc (-1) o2, x), m) ∧ (∀ j, o2 = some j → j < nM ∧ mk j = k) ∧ (o2 = none → ∀ j, j < nM → mk j ≠ k) := by
    intro d
    induction d with
    | zero =>
      intro f i o hi hf h1 h2
      obtain ⟨f, rfl⟩ : ∃ g, f = g + 1 := ⟨f - 1, by omega⟩
      have : i = nM := by omega
      subst this
      refine ⟨o, nI i, ?_, h1, h2⟩
      unfold f_X4_memoryAt_L4
      rw [q_gI12 hL, h5, i_t (leL (Nat.le_refl _) (by omega))]; rfl
    | succ d ih =>
      intro f i o hi hf h1 h2
      obtain ⟨f, rfl⟩ : ∃ g, f = g + 1 := ⟨f - 1, by omega⟩
      have hmi := wm.2.1 i (by omega)
      by_cases e : mk i = k
      · obtain ⟨o2, x, e1, e2, e3⟩ := ih f (i + 1) (some i) (by omega) (by omega) (fun j hj => by cases hj; exact ⟨by omega, e⟩) (fun q => by cases q)
        refine ⟨o2, x, ?_, e2, e3⟩
        unfold f_X4_memoryAt_L4
        rw [q_gI12 hL, h5, i_f (leN (by omega) (by omega)), q_gN12_6 hL, q_lI17 hL (by omega), hm i (by omega), i_t (by rw [e]), nI_1]
        exact e1
      · obtain ⟨o2, x, e1, e2, e3⟩ := ih f (i + 1) o (by omega) (by omega) (fun j hj => ⟨by have := (h1 j hj).1; omega, (h1 j hj).2⟩) (fun q j hj => by
          rcases Nat.lt_succ_iff_lt_or_eq.mp hj with g | g
          · exact h2 q j g
          · rw [g]; exact e)
        refine ⟨o2, x, ?_, e2, e3⟩
        unfold f_X4_memoryAt_L4
        rw [q_gI12 hL, h5, i_f (leN (by omega) (by omega)), q_gN12_6 hL, q_lI17 hL (by omega), hm i (by omega), i_f (fun q => e ((nI_eq (by omega) (by omega)).mp q)), nI_1]
        exact e1
  obtain ⟨o2, x, e1, e2, e3⟩ := L nM 2100 0 none (by omega) (by omega) (fun j hj => by cases hj) (fun _ j hj => absurd hj (by omega))
  have e4 : f_X4_memoryAt (X + 12) (nI k) m = some (enc (-1) o2, m) := by
    unfold f_X4_memoryAt
    rw [b_eq (show f_X4_memoryAt_L4 2100 (X + 12) (nI k) (-1) 0 m = _ from e1)]; rfl
  cases o2 with
  | none => exact Or.inl ⟨e3 rfl, e4⟩
  | some j => exact Or.inr ⟨j, (e2 j rfl).1, (e2 j rfl).2, e4⟩
end OPK

/-! the row of segments by places, on both sides; sums over it; due, cheapest, worst -/
def PX (X nS : Nat) (ad t z l : Nat → Nat) (m : Mem) : Prop := SL X m ∧ mI m X 3 = nI nS ∧ nS ≤ 20 ∧ ∀ p, p < nS → mR m (X + 5) p = some (ad p) ∧ mK m (ad p) = 2 ∧ mI m (ad p) 1 = nI (t p) ∧ mI m (ad p) 2 = nI (z p) ∧ mI m (ad p) 7 = nI (l p) ∧ z p ≤ 100 ∧ l p ≤ 100 ∧ t p ≤ 4096
def PQ (X nS : Nat) (s t z l : Nat → Nat) (m : Mem) : Prop := SL X m ∧ mI m (X + 12) 7 = nI nS ∧ nS ≤ 20 ∧ ∀ p, p < nS → mI m (X + 18) p = nI (s p) ∧ s p < 21 ∧ mI m (X + 21) (s p) = nI (t p) ∧ mI m (X + 22) (s p) = nI (z p) ∧ f_X4_livingOf (X + 12) (nI (s p)) m = some (nI (l p), m) ∧ z p ≤ 100 ∧ l p ≤ 100 ∧ t p ≤ 4096
theorem inv_PP {X c : Nat} {m : Mem} (h : Inv X c m) (hc : c ≤ 4096) : ∃ nS F ad s t z l, PX X nS ad t z l m ∧ PQ X nS s t z l (setI m (X + 12) 0 0) ∧ mI m X 6 = nI F ∧ mI (setI m (X + 12) 0 0) (X + 12) 18 = nI F ∧ 2 ≤ F ∧ F ≤ 5 := by
  have hL := h.1
  obtain ⟨-, -, nS, nn, us, od, sa, sz, num, ti, rk, rv, lv, v, nM, mk, loc, tt, gn, ca, hIS, hIL, -, -⟩ := h
  have hL2 : SL X (setI m (X + 12) 0 0) := hL
  have hIL2 : IL X us sa sz rk lv v nM mk loc tt (setI m (X + 12) 0 0) := IL_t hIL (IS_sa hIS).1
  have hIS2 : IS X c nS nn us od sa sz num ti rk rv (setI m (X + 12) 0 0) := IS_t hIS
  obtain ⟨s1, s2, s3, s4, s5, F, rn, wn⟩ := hIS
  obtain ⟨t1, t2, -⟩ := hIS2
  refine ⟨nS, F, fun p => sa (od p), od, fun p => ti (od p), fun p => sz (od p), fun p => cnt (lv (od p)) (sz (od p)), ⟨hL, s1.1.1, s3.1, fun p hp => ?_⟩, ⟨hL2, t1.1.2, s3.1, fun p hp => ?_⟩, rn.2.2.1, by rw [mI_setI, if_neg (by omega)]; exact rn.2.2.2, wn.2.1.1, wn.2.1.2⟩
  · obtain ⟨o1, o2⟩ := s3.2.1 p hp
    obtain ⟨⟨⟨y1, y2, y3, y4, y5⟩, ⟨y6, y7, y8, y9⟩, ⟨z1, z2, z3, z4⟩, ⟨z5, z6, z7⟩, z8⟩, -⟩ := s2 _ o2
    have hz := (s4 _ o2).1
    have hq := cnt_le (lv (od p)) (sz (od p))
    exact ⟨(s1.2.1 p hp).1, y1, z6, z7, (hIL.2.2.2.2.1 _ o2).1.1, hz, Nat.le_trans hq hz, Nat.le_trans (wn.2.2.1 _ o2).2 hc⟩
  · obtain ⟨o1, o2⟩ := s3.2.1 p hp
    obtain ⟨-, ⟨⟨x1, x2, x3⟩, x4⟩⟩ := t2 _ o2
    have hz := (s4 _ o2).1
    have hq := cnt_le (lv (od p)) (sz (od p))
    exact ⟨(t1.2.1 p hp).2, o1, x2, x3, living_eq hL2 o1 x3 hz (hIL2.2.2.2.2.1 _ o2).2, hz, Nat.le_trans hq hz, Nat.le_trans (wn.2.2.1 _ o2).2 hc⟩
section SUMS
variable {X nS : Nat} {ad s t z l : Nat → Nat} {m : Mem}
theorem rows_x (h : PX X nS ad t z l m) : f_X3_rowsInSegments X m = some (nI (sumF z nS), m) := by
  obtain ⟨hL, h3, hn, hp⟩ := h
  have L : ∀ d f k, k + d = nS → d < f → f_X3_rowsInSegments_L4 f X (nI (sumF z k)) (nI k) m = some ((nI (sumF z nS), nI nS), m) := by
    intro d
    induction d with
    | zero =>
      intro f k hk hf
      obtain ⟨f, rfl⟩ : ∃ g, f = g + 1 := ⟨f - 1, by omega⟩
      have : k = nS := by omega
      subst this
      unfold f_X3_rowsInSegments_L4
      rw [q_gI0 hL, h3, i_t (leL (Nat.le_refl _) (by omega))]
      rfl
    | succ d ih =>
      intro f k hk hf
      obtain ⟨f, rfl⟩ : ∃ g, f = g + 1 := ⟨f - 1, by omega⟩
      obtain ⟨p1, p2, p3, p4, p5, -⟩ := hp k (by omega)
      unfold f_X3_rowsInSegments_L4
      rw [q_gI0 hL, h3, i_f (leN (by omega) (by omega)), q_gN0_2 hL, q_lR5 hL (by omega) p1, b_gI p2, p4, nI_add, nI_1]
      exact ih f (k + 1) (by omega) (by omega)
  unfold f_X3_rowsInSegments
  rw [b_eq (show f_X3_rowsInSegments_L4 2100 X 0 0 m = _ from L nS 2100 0 (by omega) (by omega))]
  rfl
theorem living_x (h : PX X nS ad t z l m) {p n : Nat} (hpn : p + n ≤ nS) : f_X3_livingFrom X (nI p) (nI n) m = some (nI (sumF (fun k => l (p + k)) n), m) := by
  obtain ⟨hL, h3, hn, hp⟩ := h
  have L : ∀ d f k, k + d = n → d < f → f_X3_livingFrom_L5 f X (nI p) (nI n) (nI (sumF (fun k => l (p + k)) k)) (nI (p + k)) m = some ((nI (sumF (fun k => l (p + k)) n), nI (p + n)), m) := by
    intro d
    induction d with
    | zero =>
      intro f k hk hf
      obtain ⟨f, rfl⟩ : ∃ g, f = g + 1 := ⟨f - 1, by omega⟩
      have : k = n := by omega
      subst this
      unfold f_X3_livingFrom_L5
      rw [nI_add, i_t (leL (Nat.le_refl _) (by omega))]
      rfl
    | succ d ih =>
      intro f k hk hf
      obtain ⟨f, rfl⟩ : ∃ g, f = g + 1 := ⟨f - 1, by omega⟩
      obtain ⟨p1, p2, p3, p4, p5, -⟩ := hp (p + k) (by omega)
      unfold f_X3_livingFrom_L5
      rw [nI_add, i_f (leN (by omega) (by omega)), q_gN0_2 hL, q_lR5 hL (by omega) p1, b_gI p2, p5, nI_add, nI_1]
      exact ih f (k + 1) (by omega) (by omega)
  unfold f_X3_livingFrom
  rw [b_eq (show f_X3_livingFrom_L5 2100 X (nI p) (nI n) 0 (nI p) m = _ from L n 2100 0 (by omega) (by omega))]
  rfl
theorem all_q0 (h : PQ X nS s t z l m) : f_X4_all (X + 12) 0 m = some (nI (sumF z nS), m) := by
  obtain ⟨hL, h3, hn, hp⟩ := h
  have L : ∀ d f k, k + d = nS → d < f → f_X4_all_L4 f (X + 12) 0 (nI (sumF z k)) (nI k) m = some ((nI (sumF z nS), nI nS), m) := by
    intro d
    induction d with
    | zero =>
      intro f k hk hf
      obtain ⟨f, rfl⟩ : ∃ g, f = g + 1 := ⟨f - 1, by omega⟩
      have : k = nS := by omega
      subst this
      unfold f_X4_all_L4
      rw [q_gI12 hL, h3, i_t (leL (Nat.le_refl _) (by omega))]
      rfl
    | succ d ih =>
      intro f k hk hf
      obtain ⟨f, rfl⟩ : ∃ g, f = g + 1 := ⟨f - 1, by omega⟩
      obtain ⟨p1, p2, p3, p4, p5, -⟩ := hp k (by omega)
      unfold f_X4_all_L4
      rw [q_gI12 hL, h3, i_f (leN (by omega) (by omega)), i_t (by rfl), q_gN12_12 hL, q_gN12_8 hL, q_lI18 hL (by omega), p1, q_lI22 hL p2, p4, nI_add, nI_1]
      exact ih f (k + 1) (by omega) (by omega)
  unfold f_X4_all
  rw [b_eq (show f_X4_all_L4 2100 (X + 12) 0 0 0 m = _ from L nS 2100 0 (by omega) (by omega))]
  rfl
theorem all_q1 (h : PQ X nS s t z l m) : f_X4_all (X + 12) 1 m = some (nI (sumF l nS), m) := by
  obtain ⟨hL, h3, hn, hp⟩ := h
  have L : ∀ d f k, k + d = nS → d < f → f_X4_all_L4 f (X + 12) 1 (nI (sumF l k)) (nI k) m = some ((nI (sumF l nS), nI nS), m) := by
    intro d
    induction d with
    | zero =>
      intro f k hk hf
      obtain ⟨f, rfl⟩ : ∃ g, f = g + 1 := ⟨f - 1, by omega⟩
      have : k = nS := by omega
      subst this
      unfold f_X4_all_L4
      rw [q_gI12 hL, h3, i_t (leL (Nat.le_refl _) (by omega))]
      rfl
    | succ d ih =>
      intro f k hk hf
      obtain ⟨f, rfl⟩ : ∃ g, f = g + 1 := ⟨f - 1, by omega⟩
      obtain ⟨p1, p2, p3, p4, p5, -⟩ := hp k (by omega)
      unfold f_X4_all_L4
      rw [q_gI12 hL, h3, i_f (leN (by omega) (by omega)), i_f n10, q_gN12_8 hL, q_lI18 hL (by omega), p1, q_cl12 hL, b_eq p5, nI_add, nI_1]
      exact ih f (k + 1) (by omega) (by omega)
  unfold f_X4_all
  rw [b_eq (show f_X4_all_L4 2100 (X + 12) 1 0 0 m = _ from L nS 2100 0 (by omega) (by omega))]
  rfl
/-! due -/
def likeF (t : Nat → Nat) (F p : Nat) : Prop := ∀ q, p < q → q < p + F → t q = t p
theorem tier_x (h : PX X nS ad t z l m) {p n : Nat} (hpn : p + n ≤ nS) (hn0 : 1 ≤ n) : (likeF t n p ∧ f_X3_isOfOneTier X (nI p) (nI n) m = some (1, m)) ∨ (¬ likeF t n p ∧ f_X3_isOfOneTier X (nI p) (nI n) m = some (0, m)) := by
  obtain ⟨hL, h3, hn, hp⟩ := h
  have L : ∀ d f k, k + d = n → 1 ≤ k → d < f → (∀ q, p < q → q < p + k → t q = t p) → (likeF t n p ∧ f_X3_isOfOneTier_L4 f X (nI p) (nI n) (nI (p + k)) m = some (1, m)) ∨ (¬ likeF t n p ∧ f_X3_isOfOneTier_L4 f X (nI p) (nI n) (nI (p + k)) m = some (0, m)) := by
    intro d
    induction d with
    | zero =>
      intro f k hk h1 hf hq
      obtain ⟨f, rfl⟩ : ∃ g, f = g + 1 := ⟨f - 1, by omega⟩
      have : k = n := by omega
      subst this
      unfold f_X3_isOfOneTier_L4
      rw [nI_add, i_t (leL (Nat.le_refl _) (by omega))]
      exact Or.inl ⟨hq, rfl⟩
    | succ d ih =>
      intro f k hk h1 hf hq
      obtain ⟨f, rfl⟩ : ∃ g, f = g + 1 := ⟨f - 1, by omega⟩
      obtain ⟨p1, p2, p3, p4, p5, p6, p7, p8⟩ := hp (p + k) (by omega)
      obtain ⟨q1, q2, q3, q4, q5, q6, q7, q8⟩ := hp p (by omega)
      unfold f_X3_isOfOneTier_L4
      rw [nI_add, i_f (leN (by omega) (by omega)), q_gN0_2 hL, q_lR5 hL (by omega) p1, b_gI p2, p3, q_gN0_2 hL, q_lR5 hL (by omega) q1, b_gI q2, q3]
      by_cases e : t (p + k) = t p
      · rw [i_t (by rw [e]), nI_1]
        exact ih f (k + 1) (by omega) (by omega) (by omega) (fun q a1 a2 => by
          by_cases g : q < p + k
          · exact hq q a1 g
          · rw [show q = p + k by omega]; exact e)
      · rw [i_f (fun g => e ((nI_eq (by omega) (by omega)).mp g))]
        exact Or.inr ⟨fun g => e (g (p + k) (by omega) (by omega)), rfl⟩
  unfold f_X3_isOfOneTier
  rw [nI_1]
  exact L (n - 1) 2100 1 (by omega) (by omega) (by omega) (fun q a1 a2 => absurd a1 (by omega))
theorem like_q (h : PQ X nS s t z l m) {F : Nat} (hF : mI m (X + 12) 18 = nI F) {p : Nat} (hpn : p + F ≤ nS) (hF1 : 1 ≤ F) (x : Int32) : (likeF t F p ∧ f_X4_due_L28 2100 (X + 12) x (nI p) 1 1 m = some ((1, nI F), m)) ∨ (¬ likeF t F p ∧ f_X4_due_L28 2100 (X + 12) x (nI p) 1 1 m = some ((0, nI F), m)) := by
  obtain ⟨hL, h3, hn, hp⟩ := h
  have L0 : ∀ d f k, k + d = F → d < f → f_X4_due_L28 f (X + 12) x (nI p) 0 (nI k) m = some ((0, nI F), m) := by
    intro d
    induction d with
    | zero =>
      intro f k hk hf
      obtain ⟨f, rfl⟩ : ∃ g, f = g + 1 := ⟨f - 1, by omega⟩
      have : k = F := by omega
      subst this
      unfold f_X4_due_L28
      rw [q_gI12 hL, hF, i_t (leL (Nat.le_refl _) (by omega))]
      rfl
    | succ d ih =>
      intro f k hk hf
      obtain ⟨f, rfl⟩ : ∃ g, f = g + 1 := ⟨f - 1, by omega⟩
      unfold f_X4_due_L28
      rw [q_gI12 hL, hF, i_f (leN (by omega) (by omega)), i_t (by rfl), nI_1]
      exact ih f (k + 1) (by omega) (by omega)
  have L : ∀ d f k, k + d = F → 1 ≤ k → d < f → (∀ q, p < q → q < p + k → t q = t p) → (likeF t F p ∧ f_X4_due_L28 f (X + 12) x (nI p) 1 (nI k) m = some ((1, nI F), m)) ∨ (¬ likeF t F p ∧ f_X4_due_L28 f (X + 12) x (nI p) 1 (nI k) m = some ((0, nI F), m)) := by
    intro d
    induction d with
    | zero =>
      intro f k hk h1 hf hq
      obtain ⟨f, rfl⟩ : ∃ g, f = g + 1 := ⟨f - 1, by omega⟩
      have : k = F := by omega
      subst this
      unfold f_X4_due_L28
      rw [q_gI12 hL, hF, i_t (leL (Nat.le_refl _) (by omega))]
      exact Or.inl ⟨hq, rfl⟩
    | succ d ih =>
      intro f k hk h1 hf hq
      obtain ⟨f, rfl⟩ : ∃ g, f = g + 1 := ⟨f - 1, by omega⟩
      obtain ⟨p1, p2, p3, p4, p5, p6, p7, p8⟩ := hp (p + k) (by omega)
      obtain ⟨q1, q2, q3, q4, q5, q6, q7, q8⟩ := hp p (by omega)
      unfold f_X4_due_L28
      rw [q_gI12 hL, hF, i_f (leN (by omega) (by omega)), i_f n10, q_gN12_11 hL, q_gN12_8 hL, nI_add, q_lI18 hL (by omega), p1, q_lI21 hL p2, p3, q_gN12_11 hL, q_gN12_8 hL, q_lI18 hL (by omega), q1, q_lI21 hL q2, q3, nI_1]
      by_cases e : t (p + k) = t p
      · rw [i_t (by rw [e])]
        exact ih f (k + 1) (by omega) (by omega) (by omega) (fun q a1 a2 => by
          by_cases g : q < p + k
          · exact hq q a1 g
          · rw [show q = p + k by omega]; exact e)
      · rw [i_f (fun g => e ((nI_eq (by omega) (by omega)).mp g))]
        exact Or.inr ⟨fun g => e (g (p + k) (by omega) (by omega)), L0 d f (k + 1) (by omega) (by omega)⟩
  exact L (F - 1) 2100 1 (by omega) (by omega) (by omega) (fun q a1 a2 => absurd a1 (by omega))
def enc (e : Int32) (o : Option Nat) : Int32 := match o with
  | none => e
  | some p => nI p
/-- both loops of due() side by side: the same best -/
theorem due_xq {m2 : Mem} (h : PX X nS ad t z l m) (g : PQ X nS s t z l m2) {F : Nat} (hF : mI m X 6 = nI F) (hF2 : mI m2 (X + 12) 18 = nI F) (h2 : 2 ≤ F) (h5 : F ≤ 5) : ∀ d f f2 k (o : Option Nat), k + d = 21 → d < f → d < f2 → (∀ p, o = some p → p < nS) → ∃ (o2 : Option Nat) (x x2 : Int32), (∀ p, o2 = some p → p < nS) ∧ f_X3_due_L4 f X (enc (-1) o) (nI k) m = some ((enc (-1) o2, x), m) ∧ f_X4_due_L10 f2 (X + 12) (enc (-3) o) (nI k) m2 = some ((enc (-3) o2, x2), m2) := by
  intro d
  have h' := h
  have g' := g
  obtain ⟨hL, h3, hn, hp⟩ := h'
  obtain ⟨hL2, h32, hn2, hp2⟩ := g'
  induction d with
  | zero =>
    intro f f2 k o hk hf hf2 ho
    obtain ⟨f, rfl⟩ : ∃ g, f = g + 1 := ⟨f - 1, by omega⟩
    obtain ⟨f2, rfl⟩ : ∃ g, f2 = g + 1 := ⟨f2 - 1, by omega⟩
    refine ⟨o, nI k, nI k, ho, ?_, ?_⟩
    · unfold f_X3_due_L4
      rw [q_gI0 hL, hF, q_gI0 hL, h3, nI_add, i_t ((nI_ltI (by omega) (by omega)).mpr (by omega))]
      rfl
    · unfold f_X4_due_L10
      rw [q_gI12 hL2, hF2, q_gI12 hL2, h32, nI_add, i_t ((nI_ltI (by omega) (by omega)).mpr (by omega))]
      rfl
  | succ d ih =>
    intro f f2 k o hk hf hf2 ho
    obtain ⟨f, rfl⟩ : ∃ g, f = g + 1 := ⟨f - 1, by omega⟩
    obtain ⟨f2, rfl⟩ : ∃ g, f2 = g + 1 := ⟨f2 - 1, by omega⟩
    unfold f_X3_due_L4 f_X4_due_L10
    rw [q_gI0 hL, hF, q_gI0 hL, h3, nI_add, q_gI12 hL2, hF2, q_gI12 hL2, h32, nI_add]
    by_cases hkn : nS < k + F
    · refine ⟨o, nI k, nI k, ho, ?_, ?_⟩
      · rw [i_t ((nI_ltI (by omega) (by omega)).mpr hkn)]; rfl
      · rw [i_t ((nI_ltI (by omega) (by omega)).mpr hkn)]; rfl
    · have nlt : ¬ nI nS < nI (k + F) := ltL (by omega) (by omega)
      have next : ∀ o' : Option Nat, (∀ p, o' = some p → p < nS) → ∃ (o2 : Option Nat) (x x2 : Int32), (∀ p, o2 = some p → p < nS) ∧ f_X3_due_L4 f X (enc (-1) o') (nI (k + 1)) m = some ((enc (-1) o2, x), m) ∧ f_X4_due_L10 f2 (X + 12) (enc (-3) o') (nI (k + 1)) m2 = some ((enc (-3) o2, x2), m2) := fun o' ho' => ih f f2 (k + 1) o' (by omega) (by omega) (by omega) ho'
      rcases tier_x h (p := k) (n := F) (by omega) (by omega) with ⟨c1, e1⟩ | ⟨c1, e1⟩
      · rcases like_q g hF2 (p := k) (by omega) (by omega) (enc (-3) o) with ⟨c2, e2⟩ | ⟨c2, e2⟩
        · cases o with
          | none =>
            obtain ⟨o2, x, x2, a1, a2, a3⟩ := next (some k) (fun p hq => by cases hq; omega)
            refine ⟨o2, x, x2, a1, ?_, ?_⟩
            · rw [i_f nlt, q_gI0 hL, hF, q_cl0 hL, b_eq e1, i_f n10, i_t (by rfl), nI_1]; exact a2
            · rw [i_f nlt, b_eq e2, i_f n10, i_t (show enc (-3) none < 0 by decide), nI_1]; exact a3
          | some b =>
            have hb := ho b rfl
            obtain ⟨p1, p2, p3, p4, p5, p6, p7, p8⟩ := hp k (by omega)
            obtain ⟨q1, q2, q3, q4, q5, q6, q7, q8⟩ := hp b hb
            obtain ⟨r1, r2, r3, r4, r5, r6, r7, r8⟩ := hp2 k (by omega)
            obtain ⟨t1, t2, t3, t4, t5, t6, t7, t8⟩ := hp2 b hb
            have ex : enc (-1) (some b) = nI b := rfl
            have eq : enc (-3) (some b) = nI b := rfl
            by_cases c3 : t b ≤ t k
            · obtain ⟨o2, x, x2, a1, a2, a3⟩ := next (some b) ho
              refine ⟨o2, x, x2, a1, ?_, ?_⟩
              · rw [i_f nlt, q_gI0 hL, hF, q_cl0 hL, b_eq e1, i_f n10, ex, i_f (nI_m1 (by omega)), q_gN0_2 hL, q_lR5 hL (by omega) p1, b_gI p2, p3, q_gN0_2 hL, q_lR5 hL (by omega) q1, b_gI q2, q3, i_t (leL c3 (by omega)), nI_1]; exact a2
              · rw [i_f nlt, b_eq e2, i_f n10, eq, i_f (nI_pos (by omega)), q_gN12_11 hL2, q_gN12_8 hL2, q_lI18 hL2 (by omega), r1, q_lI21 hL2 r2, r3, q_gN12_11 hL2, q_gN12_8 hL2, q_lI18 hL2 (by omega), t1, q_lI21 hL2 t2, t3, i_t (leL c3 (by omega)), nI_1]; exact a3
            · obtain ⟨o2, x, x2, a1, a2, a3⟩ := next (some k) (fun p hq => by cases hq; omega)
              refine ⟨o2, x, x2, a1, ?_, ?_⟩
              · rw [i_f nlt, q_gI0 hL, hF, q_cl0 hL, b_eq e1, i_f n10, ex, i_f (nI_m1 (by omega)), q_gN0_2 hL, q_lR5 hL (by omega) p1, b_gI p2, p3, q_gN0_2 hL, q_lR5 hL (by omega) q1, b_gI q2, q3, i_f (leN (by omega) (by omega)), nI_1]; exact a2
              · rw [i_f nlt, b_eq e2, i_f n10, eq, i_f (nI_pos (by omega)), q_gN12_11 hL2, q_gN12_8 hL2, q_lI18 hL2 (by omega), r1, q_lI21 hL2 r2, r3, q_gN12_11 hL2, q_gN12_8 hL2, q_lI18 hL2 (by omega), t1, q_lI21 hL2 t2, t3, i_f (leN (by omega) (by omega)), nI_1]; exact a3
        · exact absurd c1 c2
      · rcases like_q g hF2 (p := k) (by omega) (by omega) (enc (-3) o) with ⟨c2, e2⟩ | ⟨c2, e2⟩
        · exact absurd c2 c1
        · obtain ⟨o2, x, x2, a1, a2, a3⟩ := next o ho
          refine ⟨o2, x, x2, a1, ?_, ?_⟩
          · rw [i_f nlt, q_gI0 hL, hF, q_cl0 hL, b_eq e1, i_t (by rfl), nI_1]; exact a2
          · rw [i_f nlt, b_eq e2, i_t (by rfl), nI_1]; exact a3
end SUMS
theorem op_due {X c : Nat} {m : Mem} (h : Inv X c m) (hc : c ≤ 4096) : ∃ r m1 m2, cl 3 X (f_X3_due X) m = some (r, m1) ∧ cl 4 (X + 12) (f_X4_due (X + 12)) m1 = some (r, m2) ∧ Inv X (c + 1) m2 := by
  refine op_q h ?_
  obtain ⟨nS, F, ad, s, t, z, l, hx, hq, hF, hF2, h2, h5⟩ := inv_PP h hc
  obtain ⟨o, x, x2, a1, a2, a3⟩ := due_xq hx hq hF hF2 h2 h5 21 2100 2100 0 none (by omega) (by omega) (by omega) (fun p hq => by cases hq)
  unfold f_X3_due f_X4_due
  refine ⟨enc (-3) o, ?_, ?_⟩
  · rw [b_eq (show f_X3_due_L4 2100 X (-1) 0 m = _ from a2)]
    cases o with
    | none => rw [i_t (by rfl)]; rfl
    | some p =>
      have := a1 p rfl
      have := hx.2.2.1
      rw [i_f (show ¬ enc (-1) (some p) = -1 from nI_m1 (by omega))]; rfl
  · rw [q_pI12 hx.1, b_eq (show f_X4_due_L10 2100 (X + 12) (-3) 0 _ = _ from a3)]; rfl

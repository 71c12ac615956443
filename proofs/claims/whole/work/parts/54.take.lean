/-! one row is taken: what it does to the ghosts -/
section TAKE
variable {X c : Nat} {m : Mem}
def WT (gn gt gw gl : Nat) (Z ga : Nat → Nat) (R : Nat → Nat → Nat) (V : Nat → Nat → Int32) (Lv : Nat → Nat → Bool) (gg : Nat → Nat → Int32) (wk wi nk : Nat → Nat) (nv : Nat → Int32) (nt tt : Nat → Nat) : Prop :=
  ((∀ k, k < gn → ga k ≤ Z k) ∧ gt = sumF ga gn ∧ gl = sumF (fun k => Z k - ga k) gn) ∧
  (∀ k i, k < gn → i < ga k → gg k i = -1 ∨ ∃ j, j < gw ∧ gg k i = nI j ∧ wk j = k ∧ wi j = i) ∧
  (∀ j, j < gw → wk j < gn ∧ wi j < ga (wk j) ∧ gg (wk j) (wi j) = nI j ∧ nk j = R (wk j) (wi j) ∧ nv j = V (wk j) (wi j) ∧ nt j ≤ tt (nk j) ∧ (Lv (wk j) (wi j) = true ↔ tt (nk j) = nt j)) ∧
  (∀ i j, i < j → j < gw → nk i < nk j) ∧
  (∀ k i r j, k < gn → i < ga k → r < gn → ga r ≤ j → j < Z r → R k i ≤ R r j) ∧
  (∀ j k i, j < gw → k < gn → ga k ≤ i → i < Z k → R k i = nk j → Lv k i = false) ∧
  ∀ k i, k < gn → i < ga k → Lv k i = true → gg k i ≠ -1
def WZ (gn : Nat) (Z : Nat → Nat) (R : Nat → Nat → Nat) (Lv : Nat → Nat → Bool) : Prop := (∀ k, k < gn → Z k ≤ 100 ∧ (∀ i, i < Z k → R k i < 100) ∧ ∀ i j, i < j → j < Z k → R k i < R k j) ∧ ∀ k i r j, k < gn → i < Z k → r < gn → j < Z r → Lv k i = true → Lv r j = true → R k i = R r j → k = r ∧ i = j
theorem sum_up {f : Nat → Nat} {n b : Nat} (hb : b < n) : sumF (va_up f b (f b + 1)) n = sumF f n + 1 := by
  induction n with
  | zero => omega
  | succ n ih =>
    unfold sumF
    by_cases e : b = n
    · subst e
      rw [va_s, sumF_congr (g := f) (fun k hk => va_n (by omega))]
      omega
    · rw [ih (by omega), va_n (Ne.symm e)]
      omega
theorem sum_dn {f g : Nat → Nat} {n b : Nat} (hb : b < n) (h1 : g b + 1 = f b) (h : ∀ k, k < n → k ≠ b → g k = f k) : sumF g n + 1 = sumF f n := by
  induction n with
  | zero => omega
  | succ n ih =>
    unfold sumF
    by_cases e : b = n
    · subst e
      rw [sumF_congr (f := g) (g := f) (fun k hk => h k (by omega) (by omega))]
      omega
    · have := ih (by omega) (fun k hk => h k (by omega))
      have := h n (by omega) (Ne.symm e)
      omega
theorem inc_le {f : Nat → Nat} {n B : Nat} (h : ∀ i j, i < j → j < n → f i < f j) (hB : ∀ i, i < n → f i < B) : n ≤ B := by
  have L : ∀ i, i < n → i ≤ f i := by
    intro i
    induction i with
    | zero => intro _; omega
    | succ i ih =>
      intro hi
      have := ih (by omega)
      have := h i (i + 1) (by omega) hi
      omega
  by_cases e : n = 0
  · omega
  · have := L (n - 1) (by omega)
    have := hB (n - 1) (by omega)
    omega
variable {gn gt gw gl : Nat} {Z ga : Nat → Nat} {R : Nat → Nat → Nat} {V : Nat → Nat → Int32} {Lv : Nat → Nat → Bool} {gg : Nat → Nat → Int32} {wk wi nk : Nat → Nat} {nv : Nat → Int32} {nt tt : Nat → Nat}
theorem WT_gw (h : WT gn gt gw gl Z ga R V Lv gg wk wi nk nv nt tt) (z : WZ gn Z R Lv) : gw ≤ 100 := inc_le h.2.2.2.1 (fun i hi => by
  obtain ⟨a1, a2, -, a4, -⟩ := h.2.2.1 i hi
  rw [a4]
  exact (z.1 _ a1).2.1 _ (by have := h.1.1 _ a1; omega))
theorem up2_s {α : Type} {f : Nat → Nat → α} {a k : Nat} {v : α} : up2 f a k v a k = v := if_pos ⟨rfl, rfl⟩
theorem up2_n {α : Type} {f : Nat → Nat → α} {a k b j : Nat} {v : α} (h : ¬ (b = a ∧ j = k)) : up2 f a k v b j = f b j := if_neg h
theorem take_sum (h : WT gn gt gw gl Z ga R V Lv gg wk wi nk nv nt tt) {b : Nat} (hb : b < gn) (hz : ga b < Z b) : (∀ k, k < gn → va_up ga b (ga b + 1) k ≤ Z k) ∧ gt + 1 = sumF (va_up ga b (ga b + 1)) gn ∧ gl - 1 = sumF (fun k => Z k - va_up ga b (ga b + 1) k) gn ∧ 0 < gl := by
  obtain ⟨⟨a1, a2, a3⟩, -⟩ := h
  have e := sum_dn (f := fun k => Z k - ga k) (g := fun k => Z k - va_up ga b (ga b + 1) k) hb (by show Z b - va_up ga b (ga b + 1) b + 1 = Z b - ga b; rw [va_s]; omega) (fun k hk hne => by show Z k - va_up ga b (ga b + 1) k = Z k - ga k; rw [va_n hne])
  refine ⟨fun k hk => ?_, by rw [sum_up hb, a2], by omega, by omega⟩
  by_cases e : k = b
  · rw [e, va_s]; omega
  · rw [va_n e]; exact a1 k hk
theorem take_7 (h : WT gn gt gw gl Z ga R V Lv gg wk wi nk nv nt tt) (z : WZ gn Z R Lv) {b : Nat} (hb : b < gn) (hz : ga b < Z b) (hm : ∀ r, r < gn → ga r < Z r → R b (ga b) ≤ R r (ga r)) : ∀ k i r j, k < gn → i < va_up ga b (ga b + 1) k → r < gn → va_up ga b (ga b + 1) r ≤ j → j < Z r → R k i ≤ R r j := by
  intro k i r j hk hi hr hj hj2
  have hrj : ga r ≤ j := by
    by_cases e : r = b
    · rw [e, va_s] at hj; rw [e]; omega
    · rw [va_n e] at hj; exact hj
  have old : i < ga k → R k i ≤ R r j := fun q => h.2.2.2.2.1 k i r j hk q hr hrj hj2
  by_cases e : k = b
  · subst e
    rw [va_s] at hi
    by_cases e2 : i = ga k
    · subst e2
      have h1 := hm r hr (by omega)
      by_cases e3 : ga r = j
      · rw [← e3]; exact h1
      · have := (z.1 r hr).2.2 (ga r) j (by omega) hj2
        omega
    · exact old (by omega)
  · rw [va_n e] at hi
    exact old hi
theorem take_alive (h : WT gn gt gw gl Z ga R V Lv gg wk wi nk nv nt tt) (z : WZ gn Z R Lv) {b : Nat} (hb : b < gn) (hz : ga b < Z b) (hm : ∀ r, r < gn → ga r < Z r → R b (ga b) ≤ R r (ga r)) (hl : Lv b (ga b) = true) : WT gn (gt + 1) (gw + 1) (gl - 1) Z (va_up ga b (ga b + 1)) R V Lv (up2 gg b (ga b) (nI gw)) (va_up wk gw b) (va_up wi gw (ga b)) (va_up nk gw (R b (ga b))) (va_up nv gw (V b (ga b))) (va_up nt gw (tt (R b (ga b)))) tt := by
  have hgw := WT_gw h z
  obtain ⟨s1, s2, s3, -⟩ := take_sum h hb hz
  have t7 := take_7 h z hb hz hm
  obtain ⟨a1, a2, a3, a4, a5, a6, a7⟩ := h
  have hle : ∀ k, ga k ≤ va_up ga b (ga b + 1) k := fun k => by
    by_cases e : k = b
    · rw [e, va_s]; omega
    · rw [va_n e]; omega
  have hold : ∀ k i, i < va_up ga b (ga b + 1) k → ¬ (k = b ∧ i = ga b) → i < ga k := fun k i hi hn => by
    by_cases e : k = b
    · subst e
      rw [va_s] at hi; omega
    · rw [va_n e] at hi; exact hi
  refine ⟨⟨s1, s2, s3⟩, fun k i hk hi => ?_, fun j hj => ?_, fun i j hij hj => ?_, t7, fun j k i hj hk h1 h2 h3 => ?_, fun k i hk hi hlv => ?_⟩
  · by_cases e : k = b ∧ i = ga b
    · obtain ⟨rfl, rfl⟩ := e
      exact Or.inr ⟨gw, by omega, up2_s, va_s, va_s⟩
    · rw [up2_n e]
      rcases a2 k i hk (hold k i hi e) with q | ⟨j, q1, q2, q3, q4⟩
      · exact Or.inl q
      · exact Or.inr ⟨j, by omega, q2, by rw [va_n (by omega)]; exact q3, by rw [va_n (by omega)]; exact q4⟩
  · by_cases e : j = gw
    · subst e
      rw [va_s, va_s, va_s, va_s, va_s, va_s]
      refine ⟨hb, by omega, up2_s, rfl, rfl, Nat.le_refl _, ?_⟩
      exact ⟨fun _ => rfl, fun _ => hl⟩
    · rw [va_n e, va_n e, va_n e, va_n e, va_n e]
      obtain ⟨x1, x2, x3, x4⟩ := a3 j (by omega)
      refine ⟨x1, Nat.lt_of_lt_of_le x2 (hle _), ?_, x4⟩
      rw [up2_n (fun q => by rw [q.1, q.2] at x2; omega)]
      exact x3
  · by_cases e : j = gw
    · subst e
      rw [va_s, va_n (by omega)]
      obtain ⟨x1, x2, x3, x4, -⟩ := a3 i hij
      have y1 : R (wk i) (wi i) ≤ R b (ga b) := a5 (wk i) (wi i) b (ga b) x1 x2 hb (Nat.le_refl _) hz
      rw [← x4] at y1
      have y2 : R b (ga b) ≠ nk i := fun q => by
        have := a6 i b (ga b) hij hb (Nat.le_refl _) hz q
        rw [hl] at this
        cases this
      omega
    · rw [va_n e, va_n (by omega)]
      exact a4 i j hij (by omega)
  · have hga := hle k
    by_cases e : j = gw
    · subst e
      rw [va_s] at h3
      cases q : Lv k i with
      | false => rfl
      | true =>
        obtain ⟨y1, y2⟩ := z.2 k i b (ga b) hk h2 hb hz q hl h3
        subst y1
        rw [va_s] at h1
        omega
    · rw [va_n e] at h3
      exact a6 j k i (by omega) hk (by omega) h2 h3
  · by_cases e : k = b ∧ i = ga b
    · obtain ⟨rfl, rfl⟩ := e
      rw [up2_s]
      exact nI_m1 (by omega)
    · rw [up2_n e]
      exact a7 k i hk (hold k i hi e) hlv
theorem take_dead (h : WT gn gt gw gl Z ga R V Lv gg wk wi nk nv nt tt) (z : WZ gn Z R Lv) {b : Nat} (hb : b < gn) (hz : ga b < Z b) (hm : ∀ r, r < gn → ga r < Z r → R b (ga b) ≤ R r (ga r)) (hl : Lv b (ga b) = false) : WT gn (gt + 1) gw (gl - 1) Z (va_up ga b (ga b + 1)) R V Lv (up2 gg b (ga b) (-1)) wk wi nk nv nt tt := by
  obtain ⟨s1, s2, s3, -⟩ := take_sum h hb hz
  have t7 := take_7 h z hb hz hm
  obtain ⟨a1, a2, a3, a4, a5, a6, a7⟩ := h
  have hle : ∀ k, ga k ≤ va_up ga b (ga b + 1) k := fun k => by
    by_cases e : k = b
    · rw [e, va_s]; omega
    · rw [va_n e]; omega
  have hold : ∀ k i, i < va_up ga b (ga b + 1) k → ¬ (k = b ∧ i = ga b) → i < ga k := fun k i hi hn => by
    by_cases e : k = b
    · subst e
      rw [va_s] at hi; omega
    · rw [va_n e] at hi; exact hi
  refine ⟨⟨s1, s2, s3⟩, fun k i hk hi => ?_, fun j hj => ?_, a4, t7, fun j k i hj hk h1 h2 h3 => a6 j k i hj hk (Nat.le_trans (hle k) h1) h2 h3, fun k i hk hi hlv => ?_⟩
  · by_cases e : k = b ∧ i = ga b
    · obtain ⟨rfl, rfl⟩ := e
      exact Or.inl up2_s
    · rw [up2_n e]
      exact a2 k i hk (hold k i hi e)
  · obtain ⟨x1, x2, x3, x4⟩ := a3 j hj
    refine ⟨x1, Nat.lt_of_lt_of_le x2 (hle _), ?_, x4⟩
    rw [up2_n (fun q => by rw [q.1, q.2] at x2; omega)]
    exact x3
  · by_cases e : k = b ∧ i = ga b
    · obtain ⟨rfl, rfl⟩ := e
      rw [hl] at hlv
      cases hlv
    · rw [up2_n e]
      exact a7 k i hk (hold k i hi e) hlv
/-- the source whose next key is least, the first of them -/
def bst (ga Z K : Nat → Nat) : Nat → Option Nat
  | 0 => none
  | k + 1 => if Z k ≤ ga k then bst ga Z K k else match bst ga Z K k with
    | none => some k
    | some b => if K b ≤ K k then some b else some k
theorem bst_spec (ga Z K : Nat → Nat) (n : Nat) : (bst ga Z K n = none → ∀ r, r < n → Z r ≤ ga r) ∧ ∀ b, bst ga Z K n = some b → b < n ∧ ga b < Z b ∧ ∀ r, r < n → ga r < Z r → K b ≤ K r := by
  induction n with
  | zero => exact ⟨fun _ r hr => absurd hr (by omega), fun b hb => by cases hb⟩
  | succ n ih =>
    unfold bst
    by_cases e : Z n ≤ ga n
    · rw [if_pos e]
      refine ⟨fun q r hr => ?_, fun b hb => ?_⟩
      · by_cases e2 : r = n
        · rw [e2]; exact e
        · exact ih.1 q r (by omega)
      · obtain ⟨x1, x2, x3⟩ := ih.2 b hb
        refine ⟨by omega, x2, fun r hr hz => ?_⟩
        by_cases e2 : r = n
        · rw [e2] at hz; omega
        · exact x3 r (by omega) hz
    · rw [if_neg e]
      cases hq : bst ga Z K n with
      | none =>
        refine ⟨fun q => (by cases q), fun b hb => ?_⟩
        cases hb
        refine ⟨by omega, by omega, fun r hr hz => ?_⟩
        by_cases e2 : r = n
        · rw [e2]; omega
        · have := ih.1 hq r (by omega)
          omega
      | some b0 =>
        obtain ⟨x1, x2, x3⟩ := ih.2 b0 hq
        by_cases e3 : K b0 ≤ K n
        · simp only [if_pos e3]
          refine ⟨fun q => (by cases q), fun b hb => ?_⟩
          cases hb
          refine ⟨by omega, x2, fun r hr hz => ?_⟩
          by_cases e2 : r = n
          · rw [e2]; exact e3
          · exact x3 r (by omega) hz
        · simp only [if_neg e3]
          refine ⟨fun q => (by cases q), fun b hb => ?_⟩
          cases hb
          refine ⟨by omega, by omega, fun r hr hz => ?_⟩
          by_cases e2 : r = n
          · rw [e2]; omega
          · have := x3 r (by omega) hz
            omega
theorem bst_some (h : WT gn gt gw gl Z ga R V Lv gg wk wi nk nv nt tt) (hl : 0 < gl) (K : Nat → Nat) : ∃ b, bst ga Z K gn = some b := by
  cases q : bst ga Z K gn with
  | some b => exact ⟨b, rfl⟩
  | none =>
    have := (bst_spec ga Z K gn).1 q
    have e := sum_zero (f := fun k => Z k - ga k) (n := gn) (fun j hj => by have := this j hj; show Z j - ga j = 0; omega)
    have := h.1.2.2
    omega
end TAKE

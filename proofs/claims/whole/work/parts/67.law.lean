/-! The law: every call on both sides answers alike, and the state is kept -/
theorem step_ok {X c : Nat} {m : Mem} (h : Inv X c m) (hc : c ≤ 4096) (op a1 a2 a3 : Int32) (post : Mem → Prop) (hp : ∀ m2, Inv X (c + 1) m2 → post m2) : stepP X (X + 12) (X + 36) op a1 a2 a3 m post := by
  unfold stepP
  by_cases e0 : op = 0
  · rw [if_pos e0]
    obtain ⟨r, m1, m2, x1, x2, x3⟩ := op_put h a1 a2
    exact ⟨r, m1, m2, x1, x2, hp m2 x3⟩
  rw [if_neg e0]
  by_cases e1 : op = 1
  · rw [if_pos e1]
    obtain ⟨r, m1, m2, x1, x2, x3⟩ := op_drop h a1
    exact ⟨r, m1, m2, x1, x2, hp m2 x3⟩
  rw [if_neg e1]
  by_cases e2 : op = 2
  · rw [if_pos e2]
    obtain ⟨r, m1, m2, x1, x2, x3⟩ := op_get h a1
    exact ⟨r, m1, m2, x1, x2, hp m2 x3⟩
  rw [if_neg e2]
  by_cases e3 : op = 3
  · rw [if_pos e3]
    obtain ⟨r, m1, m2, x1, x2, x3⟩ := op_next h a1
    exact ⟨r, m1, m2, x1, x2, hp m2 x3⟩
  rw [if_neg e3]
  by_cases e4 : op = 4
  · rw [if_pos e4]
    obtain ⟨r, m1, m2, x1, x2, x3⟩ := op_flush h
    exact ⟨r, m1, m2, x1, x2, hp m2 x3⟩
  rw [if_neg e4]
  by_cases e5 : op = 5
  · rw [if_pos e5]
    obtain ⟨r, m1, m2, x1, x2, x3⟩ := op_count h hc a1
    exact ⟨r, m1, m2, x1, x2, hp m2 x3⟩
  rw [if_neg e5]
  by_cases e6 : op = 6
  · rw [if_pos e6]
    obtain ⟨r, m1, m2, x1, x2, x3⟩ := op_segment h a1 a2
    exact ⟨r, m1, m2, x1, x2, hp m2 x3⟩
  rw [if_neg e6]
  by_cases e7 : op = 7
  · rw [if_pos e7]
    obtain ⟨r, m1, m2, x1, x2, x3⟩ := op_row h a1 a2 a3
    exact ⟨r, m1, m2, x1, x2, hp m2 x3⟩
  rw [if_neg e7]
  by_cases e8 : op = 8
  · rw [if_pos e8]
    obtain ⟨r, m1, m2, x1, x2, x3⟩ := op_full h a1
    exact ⟨r, m1, m2, x1, x2, hp m2 x3⟩
  rw [if_neg e8]
  by_cases e9 : op = 9
  · rw [if_pos e9]
    obtain ⟨r, m1, m2, x1, x2, x3⟩ := op_due h hc
    exact ⟨r, m1, m2, x1, x2, hp m2 x3⟩
  rw [if_neg e9]
  by_cases e10 : op = 10
  · rw [if_pos e10]
    obtain ⟨r, m1, m2, x1, x2, x3⟩ := op_cheapest h hc a1
    exact ⟨r, m1, m2, x1, x2, hp m2 x3⟩
  rw [if_neg e10]
  by_cases e11 : op = 11
  · rw [if_pos e11]
    obtain ⟨r, m1, m2, x1, x2, x3⟩ := op_worst h hc
    exact ⟨r, m1, m2, x1, x2, hp m2 x3⟩
  rw [if_neg e11]
  by_cases e12 : op = 12
  · rw [if_pos e12]
    obtain ⟨r, m1, m2, x1, x2, x3⟩ := op_begin h a1 a2
    exact ⟨r, m1, m2, x1, x2, hp m2 x3⟩
  rw [if_neg e12]
  by_cases e13 : op = 13
  · rw [if_pos e13]
    obtain ⟨r, m1, m2, x1, x2, x3⟩ := op_step h hc a1
    exact ⟨r, m1, m2, x1, x2, hp m2 x3⟩
  rw [if_neg e13]
  by_cases e14 : op = 14
  · rw [if_pos e14]
    obtain ⟨r, m1, m2, x1, x2, x3⟩ := op_stop h
    exact ⟨r, m1, m2, x1, x2, hp m2 x3⟩
  rw [if_neg e14]
  by_cases e15 : op = 15
  · rw [if_pos e15]
    obtain ⟨r, m1, m2, x1, x2, x3⟩ := op_merging h a1
    exact ⟨r, m1, m2, x1, x2, hp m2 x3⟩
  rw [if_neg e15]
  by_cases e16 : op = 16
  · rw [if_pos e16]
    obtain ⟨r, m1, m2, x1, x2, x3⟩ := op_moved h hc a1 a2
    exact ⟨r, m1, m2, x1, x2, hp m2 x3⟩
  rw [if_neg e16]
  by_cases e17 : op = 17
  · rw [if_pos e17]
    obtain ⟨r, m1, m2, x1, x2, x3⟩ := op_view h
    exact ⟨r, m1, m2, x1, x2, hp m2 x3⟩
  rw [if_neg e17]
  by_cases e18 : op = 18
  · rw [if_pos e18]
    obtain ⟨r, m1, m2, x1, x2, x3⟩ := op_seen h a1 a2
    exact ⟨r, m1, m2, x1, x2, hp m2 x3⟩
  rw [if_neg e18]
  by_cases e19 : op = 19
  · rw [if_pos e19]
    obtain ⟨r, m1, m2, x1, x2, x3⟩ := op_shut h a1
    exact ⟨r, m1, m2, x1, x2, hp m2 x3⟩
  rw [if_neg e19]
  by_cases e20 : op = 20
  · rw [if_pos e20]
    obtain ⟨k, m1, x1, x2⟩ := op_share h hc
    refine ⟨k, m1, x1, fun n hn => ?_⟩
    obtain ⟨b, m2, m3, y1, y2, y3, y4⟩ := x2 n hn
    exact ⟨b, m2, m3, y1, y2, y3, hp m3 y4⟩
  rw [if_neg e20]
  exact hp m (Inv_c h (Nat.le_succ c))
theorem law_ok : LawOK := by
  intro base L xs hL
  obtain ⟨m, e, hI⟩ := start_inv base
  refine ⟨base, base + 12, base + 36, m, e, ?_⟩
  have K : ∀ n i c (m : Mem), i = 4 * c → 4 * n + i = 2400 → i ≤ 2048 → Inv base c m → lawP base (base + 12) (base + 36) xs L n i m := by
    intro n
    induction n with
    | zero => intro i c m h1 h2 h3 _; omega
    | succ n ih =>
      intro i c m h1 h2 h3 h
      unfold lawP
      by_cases q : i + 4 ≤ L
      · rw [if_pos q]
        exact step_ok h (by omega) _ _ _ _ _ (fun m2 h2' => ih (i + 4) (c + 1) m2 (by omega) (by omega) (by omega) h2')
      · rw [if_neg q]
        trivial
  exact K 600 0 0 m rfl rfl (by omega) hI

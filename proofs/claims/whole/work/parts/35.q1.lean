/-! Arguments, and the calls that only read: get, next, full, merging, seen -/
theorem nI_neg {a : Int32} (h : a < 0) (k : Nat) (hk : k < 2 ^ 31) : a ≠ nI k := fun q => by
  rw [q] at h
  exact nI_pos hk h
theorem nI_big {a : Int32} {n : Nat} (hn : n < 2 ^ 31) (h : nI n ≤ a) (k : Nat) (hk : k < n) : a ≠ nI k := fun q => by
  rw [q, nI_leI hn (by omega)] at h
  omega
theorem n10 : ¬ (1 : Int32) = 0 := by decide
theorem isKey_spec (a : Int32) (m : Mem) : (∃ k, k < 100 ∧ a = nI k ∧ f_X3_isKey a m = some (1, m)) ∨ ((∀ k, k < 100 → a ≠ nI k) ∧ f_X3_isKey a m = some (0, m)) := by
  unfold f_X3_isKey
  rcases pk_ix a (n := 100) (by decide) with h | h | ⟨k, hk, rfl⟩
  · exact Or.inr ⟨fun k hk => nI_neg h k (by omega), by rw [i_t h]; rfl⟩
  · refine Or.inr ⟨fun k hk => nI_big (by decide) h k hk, ?_⟩
    by_cases h0 : a < 0
    · rw [i_t h0]; rfl
    · rw [i_f h0, i_t (show (100 : Int32) ≤ a from h)]; rfl
  · refine Or.inl ⟨k, hk, rfl, ?_⟩
    rw [i_f (nI_pos (by omega)), i_f (fun q => by
      have q2 : nI 100 ≤ nI k := q
      rw [nI_leI (by decide) (by omega)] at q2
      omega)]
    rfl
theorem in_eq (a lo hi : Int32) (m : Mem) : f_X4_in a lo hi m = some (if lo.toInt ≤ a.toInt ∧ a.toInt ≤ hi.toInt then 1 else 0, m) := by
  unfold f_X4_in
  by_cases h1 : a < lo
  · rw [i_t h1, if_neg (fun q => by rw [Int32.lt_iff_toInt_lt] at h1; omega)]; rfl
  · rw [i_f h1]
    by_cases h2 : hi < a
    · rw [i_t h2, if_neg (fun q => by rw [Int32.lt_iff_toInt_lt] at h2; omega)]; rfl
    · rw [i_f h2, if_pos (by rw [Int32.lt_iff_toInt_lt] at h1 h2; omega)]; rfl
theorem nI_ofInt {a : Int32} {n : Nat} (h0 : 0 ≤ a.toInt) (h : a.toInt < n) (hn : n ≤ 2 ^ 31) : ∃ k, k < n ∧ a = nI k := by
  refine ⟨a.toInt.toNat, by omega, ?_⟩
  have e : (nI a.toInt.toNat).toInt = (a.toInt.toNat : Int) := nI_toInt (by omega)
  apply Int32.toInt_inj.mp
  rw [e]
  omega
/-- in(a, lo, hi) with numbers -/
theorem in_spec (a : Int32) {lo hi : Int32} (L U : Nat) (hl : lo.toInt = L) (hh : hi.toInt = (U : Int) - 1) (hU : U ≤ 2 ^ 31) (m : Mem) : (∃ k, L ≤ k ∧ k < U ∧ a = nI k ∧ f_X4_in a lo hi m = some (1, m)) ∨ ((∀ k, L ≤ k → k < U → a ≠ nI k) ∧ f_X4_in a lo hi m = some (0, m)) := by
  rw [in_eq, hl, hh]
  by_cases h : (L : Int) ≤ a.toInt ∧ a.toInt ≤ (U : Int) - 1
  · rw [if_pos h]
    obtain ⟨k, hk, rfl⟩ := nI_ofInt (a := a) (n := U) (by omega) (by omega) hU
    rw [nI_toInt (by omega)] at h
    exact Or.inl ⟨k, by omega, hk, rfl, rfl⟩
  · rw [if_neg h]
    refine Or.inr ⟨fun k h1 h2 q => h ?_, rfl⟩
    rw [q, nI_toInt (by omega)]
    omega
theorem n1_toInt {n : Nat} (h : n < 2 ^ 30) : (nI n - 1).toInt = (n : Int) - 1 := pk_sub_toInt h (by decide)
/-- a call that only reads -/
theorem op_q {X c : Nat} {m : Mem} {fx fq : HM Int32} (h : Inv X c m) (hq : ∃ r, fx m = some (r, m) ∧ fq m = some (r, setI m (X + 12) 0 0)) : ∃ r m1 m2, cl 3 X fx m = some (r, m1) ∧ cl 4 (X + 12) fq m1 = some (r, m2) ∧ Inv X (c + 1) m2 := by
  obtain ⟨r, h1, h2⟩ := hq
  exact ⟨r, m, _, by rw [q_ce0 h.1]; exact h1, by rw [q_ce12 h.1]; exact h2, Inv_thr h⟩
section OPS1
variable {X c : Nat} {m : Mem}
theorem op_get (h : Inv X c m) (a : Int32) : ∃ r m1 m2, cl 3 X (f_X3_get X a) m = some (r, m1) ∧ cl 4 (X + 12) (f_X4_get (X + 12) a) m1 = some (r, m2) ∧ Inv X (c + 1) m2 := by
  refine op_q h ?_
  have hL := h.1
  obtain ⟨-, -, nS, nn, us, od, sa, sz, num, ti, rk, rv, lv, v, nM, mk, loc, tt, gn, ca, -, ⟨l1, l2, -⟩, -⟩ := h
  unfold f_X3_get f_X4_get
  rw [q_pI12 hL]
  have hL2 : SL X (setI m (X + 12) 0 0) := SL_setI hL
  rcases isKey_spec a m with ⟨k, hk, rfl, e⟩ | ⟨hk, e⟩
  · rcases in_spec (nI k) (lo := 0) (hi := 99) 0 100 rfl rfl (by decide) (setI m (X + 12) 0 0) with ⟨k2, -, hk2, ek, e2⟩ | ⟨hk2, e2⟩
    · by_cases hv : v k = -1
      · refine ⟨-3, ?_, ?_⟩
        · rw [b_eq e, i_f n10, q_gN0_0 hL, q_lI1 hL hk, (l1 k hk).1, i_t hv]; rfl
        · rw [b_eq e2, i_f n10, q_gN12_1 hL2, q_lI13 hL2 hk, mI_setI, if_neg (by omega), (l1 k hk).2, i_f (fun q => ((l2 k hk).nn.mp q) hv)]; rfl
      · refine ⟨v k, ?_, ?_⟩
        · rw [b_eq e, i_f n10, q_gN0_0 hL, q_lI1 hL hk, (l1 k hk).1, i_f hv, q_gN0_0 hL, q_lI1 hL hk, (l1 k hk).1]; rfl
        · rw [b_eq e2, i_f n10, q_gN12_1 hL2, q_lI13 hL2 hk, mI_setI, if_neg (by omega), (l1 k hk).2, i_t ((l2 k hk).nn.mpr hv), q_gN12_1 hL2, q_lI13 hL2 hk, mI_setI, if_neg (by omega), (l1 k hk).2]; rfl
    · exact absurd rfl (hk2 k (by omega) hk)
  · rcases in_spec a (lo := 0) (hi := 99) 0 100 rfl rfl (by decide) (setI m (X + 12) 0 0) with ⟨k2, -, hk2, ek, e2⟩ | ⟨hk2, e2⟩
    · exact absurd ek (hk k2 hk2)
    · exact ⟨-1, by rw [b_eq e, i_t rfl]; rfl, by rw [b_eq e2, i_t rfl]; rfl⟩
theorem next_x (hL : SL X m) {v : Nat → Int32} (hv : ∀ k, k < 100 → mI m (X + 1) k = v k) (a : Int32) : ∀ d f k, k + d = 100 → d < f → f_X3_next_L11 f X a (nI k) m = some (match (List.range' k d).find? (fun j => v j ≠ -1) with | some j => nI j | none => -3, m) := by
  intro d
  induction d with
  | zero =>
    intro f k hk hf
    obtain ⟨f, rfl⟩ : ∃ g, f = g + 1 := ⟨f - 1, by omega⟩
    have : k = 100 := by omega
    subst this
    unfold f_X3_next_L11
    rw [i_t (show (100 : Int32) ≤ nI 100 by decide)]
    rfl
  | succ d ih =>
    intro f k hk hf
    obtain ⟨f, rfl⟩ : ∃ g, f = g + 1 := ⟨f - 1, by omega⟩
    unfold f_X3_next_L11
    rw [i_f (fun q => by
      have q2 : nI 100 ≤ nI k := q
      rw [nI_leI (by decide) (by omega)] at q2
      omega), q_gN0_0 hL, q_lI1 hL (by omega), hv k (by omega), List.range'_succ, List.find?_cons]
    by_cases hq : v k = -1
    · rw [i_t hq, nI_1, ih f (k + 1) (by omega) (by omega)]
      simp [hq]
    · rw [i_f hq]
      simp [hq]
      rfl
theorem next_q (hL : SL X m) {v : Nat → Int32} (hv : ∀ k, k < 100 → mI m (X + 13) k = v k) (hw : WV v) (a : Int32) : ∀ d f k, k + d = 100 → d < f → f_X4_next_L19 f (X + 12) a (nI k) m = some (match (List.range' k d).find? (fun j => v j ≠ -1) with | some j => nI j | none => -3, m) := by
  intro d
  induction d with
  | zero =>
    intro f k hk hf
    obtain ⟨f, rfl⟩ : ∃ g, f = g + 1 := ⟨f - 1, by omega⟩
    have : k = 100 := by omega
    subst this
    unfold f_X4_next_L19
    rw [i_t (show (100 : Int32) ≤ nI 100 by decide)]
    rfl
  | succ d ih =>
    intro f k hk hf
    obtain ⟨f, rfl⟩ : ∃ g, f = g + 1 := ⟨f - 1, by omega⟩
    unfold f_X4_next_L19
    rw [i_f (fun q => by
      have q2 : nI 100 ≤ nI k := q
      rw [nI_leI (by decide) (by omega)] at q2
      omega), q_gN12_1 hL, q_lI13 hL (by omega), hv k (by omega), List.range'_succ, List.find?_cons]
    by_cases hq : v k = -1
    · rw [i_t ((hw k (by omega)).neg.mpr hq), nI_1, ih f (k + 1) (by omega) (by omega)]
      simp [hq]
    · rw [i_f (fun z => hq ((hw k (by omega)).neg.mp z))]
      simp [hq]
      rfl
theorem op_next (h : Inv X c m) (a : Int32) : ∃ r m1 m2, cl 3 X (f_X3_next X a) m = some (r, m1) ∧ cl 4 (X + 12) (f_X4_next (X + 12) a) m1 = some (r, m2) ∧ Inv X (c + 1) m2 := by
  refine op_q h ?_
  have hL := h.1
  obtain ⟨-, -, nS, nn, us, od, sa, sz, num, ti, rk, rv, lv, v, nM, mk, loc, tt, gn, ca, -, ⟨l1, l2, -⟩, -⟩ := h
  unfold f_X3_next f_X4_next
  rw [q_pI12 hL]
  have hL2 : SL X (setI m (X + 12) 0 0) := SL_setI hL
  rcases isKey_spec a m with ⟨k, hk, rfl, e⟩ | ⟨hk, e⟩
  · rcases in_spec (nI k) (lo := 0) (hi := 99) 0 100 rfl rfl (by decide) (setI m (X + 12) 0 0) with ⟨k2, -, hk2, ek, e2⟩ | ⟨hk2, e2⟩
    · refine ⟨_, by rw [b_eq e, i_f n10]; exact next_x hL (fun k hk => (l1 k hk).1) _ (100 - k) 2100 k (by omega) (by omega), ?_⟩
      rw [b_eq e2, i_f n10]
      exact next_q hL2 (v := v) (fun k hk => by rw [mI_setI, if_neg (by omega)]; exact (l1 k hk).2) l2 _ (100 - k) 2100 k (by omega) (by omega)
    · exact absurd rfl (hk2 k (by omega) hk)
  · rcases in_spec a (lo := 0) (hi := 99) 0 100 rfl rfl (by decide) (setI m (X + 12) 0 0) with ⟨k2, -, hk2, ek, e2⟩ | ⟨hk2, e2⟩
    · exact absurd ek (hk k2 hk2)
    · exact ⟨-1, by rw [b_eq e, i_t rfl]; rfl, by rw [b_eq e2, i_t rfl]; rfl⟩
end OPS1

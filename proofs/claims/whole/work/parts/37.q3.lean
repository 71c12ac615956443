/-! the parts over a memory whose 'thrown' was set; seen, segment, row -/
section TH
variable {X c : Nat} {m : Mem} {x : Int32}
theorem RW_t {vo : Nat → Bool} {vv : Nat → Nat → Int32} (g : RW X vo vv m) : RW X vo vv (setI m (X + 12) 0 x) := Ag.setI.RW g (fun k => ⟨by omega, by omega, by omega, fun w hw => by omega⟩)
theorem IS_t {nS nn : Nat} {us : Nat → Bool} {od sa sz num ti : Nat → Nat} {rk : Nat → Nat → Nat} {rv : Nat → Nat → Int32} (g : IS X c nS nn us od sa sz num ti rk rv m) : IS X c nS nn us od sa sz num ti rk rv (setI m (X + 12) 0 x) := Ag.setI.IS' g (fun b j hb => by omega) (fun k => ⟨⟨by omega, by omega⟩, by omega, by omega, by omega, by omega, by omega⟩) ⟨⟨by omega, by omega⟩, ⟨by omega, by omega, by omega⟩, by omega, by omega, by omega⟩
theorem IL_t {us : Nat → Bool} {sa sz : Nat → Nat} {rk : Nat → Nat → Nat} {lv : Nat → Nat → Bool} {v : Nat → Int32} {nM : Nat} {mk : Nat → Nat} {loc : Nat → Option (Nat × Nat)} {tt : Nat → Nat} (g : IL X us sa sz rk lv v nM mk loc tt m) (hsa : ∀ s, us s = true → X + 37 ≤ sa s) : IL X us sa sz rk lv v nM mk loc tt (setI m (X + 12) 0 x) := Ag.setI.IL' g hsa (fun b j hb => by omega) (fun k => ⟨⟨by omega, by omega⟩, ⟨by omega, by omega, by omega⟩, by omega, by omega, by omega, by omega⟩) ⟨by omega, by omega⟩
end TH
theorem leN {k n : Nat} (h : k < n) (hn : n < 2 ^ 31) : ¬ nI n ≤ nI k := fun q => by rw [nI_leI hn (by omega)] at q; omega
theorem cnt_sf {f : Nat → Bool} {n : Nat} (h : f n = false) : cnt f (n + 1) = cnt f n := by
  show cnt f n + _ = _
  rw [h]
  rfl
theorem cnt_st {f : Nat → Bool} {n : Nat} (h : f n = true) : cnt f (n + 1) = cnt f n + 1 := by
  show cnt f n + _ = _
  rw [h]
  rfl
section OPS3
variable {X c : Nat} {m : Mem}
theorem kVW (hL : SL X m) {w : Nat} (hw : w < 4) : mK m (X + 7 + w) = 5 ∧ mN m (X + 7 + w) = 100 := by
  rcases (show w = 0 ∨ w = 1 ∨ w = 2 ∨ w = 3 by omega) with rfl | rfl | rfl | rfl
  · exact ⟨sk7 hL, sn7 hL⟩
  · exact ⟨sk8 hL, sn8 hL⟩
  · exact ⟨sk9 hL, sn9 hL⟩
  · exact ⟨sk10 hL, sn10 hL⟩
theorem openX (hL : SL X m) {vo : Nat → Bool} (hw : ∀ w, w < 4 → mI m (X + 11) w = b2i (vo w)) (a : Int32) : (∃ w, w < 4 ∧ a = nI w ∧ f_X3_isOpenView X a m = some (b2i (vo w), m)) ∨ ((∀ w, w < 4 → a ≠ nI w) ∧ f_X3_isOpenView X a m = some (0, m)) := by
  unfold f_X3_isOpenView
  rcases pk_ix a (n := 4) (by decide) with h | h | ⟨w, hk, rfl⟩
  · exact Or.inr ⟨fun k hk => nI_neg h k (by omega), by rw [i_t h]; rfl⟩
  · refine Or.inr ⟨fun k hk => nI_big (by decide) h k hk, ?_⟩
    by_cases h0 : a < 0
    · rw [i_t h0]; rfl
    · rw [i_f h0, i_t (show (4 : Int32) ≤ a from h)]; rfl
  · refine Or.inl ⟨w, hk, rfl, ?_⟩
    rw [i_f (nI_pos (by omega)), i_f (show ¬ (4 : Int32) ≤ nI w from leN (n := 4) hk (by decide)), q_gN0_10 hL, q_lI11 hL hk, hw w hk]
    cases vo w
    · rw [i_t (by rfl)]; rfl
    · rw [i_f (by decide)]; rfl
theorem openQ (hL : SL X m) {vo : Nat → Bool} (hw : ∀ w, w < 4 → mI m (X + 34) w = b2i (vo w)) (a : Int32) : (∃ w, w < 4 ∧ a = nI w ∧ f_X4_isOpen (X + 12) a m = some (b2i (vo w), m)) ∨ ((∀ w, w < 4 → a ≠ nI w) ∧ f_X4_isOpen (X + 12) a m = some (0, m)) := by
  unfold f_X4_isOpen
  rcases in_spec a (lo := 0) (hi := 3) 0 4 rfl rfl (by decide) m with ⟨w, -, hk, rfl, e⟩ | ⟨hk, e⟩
  · refine Or.inl ⟨w, hk, rfl, ?_⟩
    rw [b_eq e, i_f n10, q_gN12_32 hL, q_lI34 hL hk, hw w hk]
    cases vo w
    · rw [i_t (by rfl)]; rfl
    · rw [i_f (by decide)]; rfl
  · exact Or.inr ⟨fun w hw => hk w (by omega) hw, by rw [b_eq e, i_t (by rfl)]; rfl⟩
theorem op_seen (h : Inv X c m) (a b : Int32) : ∃ r m1 m2, cl 3 X (f_X3_seen X a b) m = some (r, m1) ∧ cl 4 (X + 12) (f_X4_seen (X + 12) a b) m1 = some (r, m2) ∧ Inv X (c + 1) m2 := by
  refine op_q h ?_
  have hL := h.1
  obtain ⟨-, ⟨vo, vv, rw1, ww⟩, -⟩ := h
  have hL2 : SL X (setI m (X + 12) 0 0) := hL
  have rw2 : RW X vo vv (setI m (X + 12) 0 0) := RW_t rw1
  unfold f_X3_seen f_X4_seen
  rw [q_pI12 hL, q_cl0 hL, q_cl12 hL2]
  rcases openX hL (fun w hw => (rw1 w hw).1.1) a with ⟨w, hw, rfl, e⟩ | ⟨hw, e⟩
  · rcases openQ hL2 (fun w hw => (rw2 w hw).1.2) (nI w) with ⟨w2, hw2, ew, e2⟩ | ⟨hw2, e2⟩
    · have : w = w2 := (nI_eq (by omega) (by omega)).mp ew
      subst this
      by_cases ho : vo w = true
      · rw [ho] at e e2
        rcases isKey_spec b m with ⟨k, hk, rfl, e3⟩ | ⟨hk, e3⟩
        · rcases in_spec (nI k) (lo := 0) (hi := 99) 0 100 rfl rfl (by decide) (setI m (X + 12) 0 0) with ⟨k2, -, hk2, ek, e4⟩ | ⟨hk2, e4⟩
          · have o := ww w hw ho k hk
            by_cases hv : vv w k = -1
            · refine ⟨-3, ?_, ?_⟩
              · rw [b_eq e, i_f (by decide), b_eq e3, i_f n10, q_gN0_9 hL, q_lR6 hL hw, b_lI (kVW hL hw).1 (kVW hL hw).2 hk (by decide), ((rw1 w hw).2 ho k hk).1, i_t hv]; rfl
              · rw [b_eq e2, i_f (by decide), b_eq e4, i_f n10, q_gN12_33 hL2, nI100, q_lI35 hL2 (by omega), ((rw2 w hw).2 ho k hk).2, i_f (fun q => (o.nn.mp q) hv)]; rfl
            · refine ⟨vv w k, ?_, ?_⟩
              · rw [b_eq e, i_f (by decide), b_eq e3, i_f n10, q_gN0_9 hL, q_lR6 hL hw, b_lI (kVW hL hw).1 (kVW hL hw).2 hk (by decide), ((rw1 w hw).2 ho k hk).1, i_f hv]; rfl
              · rw [b_eq e2, i_f (by decide), b_eq e4, i_f n10, q_gN12_33 hL2, nI100, q_lI35 hL2 (by omega), ((rw2 w hw).2 ho k hk).2, i_t (o.nn.mpr hv), q_gN12_33 hL2, q_lI35 hL2 (by omega), ((rw2 w hw).2 ho k hk).2]; rfl
          · exact absurd rfl (hk2 k (by omega) hk)
        · rcases in_spec b (lo := 0) (hi := 99) 0 100 rfl rfl (by decide) (setI m (X + 12) 0 0) with ⟨k2, -, hk2, ek, e4⟩ | ⟨hk2, e4⟩
          · exact absurd ek (hk k2 hk2)
          · exact ⟨-1, by rw [b_eq e, i_f (by decide), b_eq e3, i_t (by rfl)]; rfl, by rw [b_eq e2, i_f (by decide), b_eq e4, i_t (by rfl)]; rfl⟩
      · rw [Bool.not_eq_true] at ho
        rw [ho] at e e2
        exact ⟨-1, by rw [b_eq e, i_t (by rfl)]; rfl, by rw [b_eq e2, i_t (by rfl)]; rfl⟩
    · exact absurd rfl (hw2 w hw)
  · rcases openQ hL2 (fun w hw => (rw2 w hw).1.2) a with ⟨w2, hw2, ew, e2⟩ | ⟨hw2, e2⟩
    · exact absurd ew (hw w2 hw2)
    · exact ⟨-1, by rw [b_eq e, i_t (by rfl)]; rfl, by rw [b_eq e2, i_t (by rfl)]; rfl⟩
theorem placeX (hL : SL X m) {nS : Nat} (hs : mI m X 3 = nI nS) (hn : nS ≤ 20) (a : Int32) : (∃ p, p < nS ∧ a = nI p ∧ f_X3_isPlace X a m = some (1, m)) ∨ ((∀ p, p < nS → a ≠ nI p) ∧ f_X3_isPlace X a m = some (0, m)) := by
  unfold f_X3_isPlace
  rcases pk_ix a (n := nS) (by omega) with h | h | ⟨p, hp, rfl⟩
  · exact Or.inr ⟨fun k hk => nI_neg h k (by omega), by rw [i_t h]; rfl⟩
  · refine Or.inr ⟨fun k hk => nI_big (by omega) h k hk, ?_⟩
    by_cases h0 : a < 0
    · rw [i_t h0]; rfl
    · rw [i_f h0, q_gI0 hL, hs, i_t h]; rfl
  · refine Or.inl ⟨p, hp, rfl, ?_⟩
    rw [i_f (nI_pos (by omega)), q_gI0 hL, hs, i_f (fun q => by rw [nI_leI (by omega) (by omega)] at q; omega)]; rfl
theorem placeQ (hL : SL X m) {nS : Nat} (hs : mI m (X + 12) 7 = nI nS) (hn : nS ≤ 20) (a : Int32) : (∃ p, p < nS ∧ a = nI p ∧ f_X4_isPlace (X + 12) a m = some (1, m)) ∨ ((∀ p, p < nS → a ≠ nI p) ∧ f_X4_isPlace (X + 12) a m = some (0, m)) := by
  unfold f_X4_isPlace
  rw [q_gI12 hL, hs]
  rcases in_spec a (lo := 0) (hi := nI nS - 1) 0 nS rfl (n1_toInt (by omega)) (by omega) m with ⟨p, -, hp, rfl, e⟩ | ⟨hp, e⟩
  · exact Or.inl ⟨p, hp, rfl, by rw [b_eq e]; rfl⟩
  · exact Or.inr ⟨fun p hp2 => hp p (by omega) hp2, by rw [b_eq e]; rfl⟩
theorem living_eq (hL : SL X m) {s sz : Nat} {lv : Nat → Bool} (hs : s < 21) (hz : mI m (X + 22) s = nI sz) (hn : sz ≤ 100) (hl : ∀ i, i < sz → mI m (X + 25) (100 * s + i) = b2i (lv i)) : f_X4_livingOf (X + 12) (nI s) m = some (nI (cnt lv sz), m) := by
  have L : ∀ d f k, k + d = sz → d < f → f_X4_livingOf_L4 f (X + 12) (nI s) (nI (cnt lv k)) (nI k) m = some ((nI (cnt lv sz), nI sz), m) := by
    intro d
    induction d with
    | zero =>
      intro f k hk hf
      obtain ⟨f, rfl⟩ : ∃ g, f = g + 1 := ⟨f - 1, by omega⟩
      have : k = sz := by omega
      subst this
      unfold f_X4_livingOf_L4
      rw [q_gN12_12 hL, q_lI22 hL hs, hz, i_t (leL (Nat.le_refl _) (by omega))]
      rfl
    | succ d ih =>
      intro f k hk hf
      obtain ⟨f, rfl⟩ : ∃ g, f = g + 1 := ⟨f - 1, by omega⟩
      have hi := ih f (k + 1) (by omega) (by omega)
      unfold f_X4_livingOf_L4
      rw [q_gN12_12 hL, q_lI22 hL hs, hz, i_f (fun q => by rw [nI_leI (by omega) (by omega)] at q; omega), q_gN12_15 hL, nI100, q_lI25 hL (by omega), hl k (by omega), nI_1]
      cases hb : lv k
      · rw [i_t (by rfl), nI_p0]
        rw [cnt_sf hb] at hi
        exact hi
      · rw [i_f (by decide), nI_1]
        rw [cnt_st hb] at hi
        exact hi
  unfold f_X4_livingOf
  rw [b_eq (show f_X4_livingOf_L4 2100 (X + 12) (nI s) 0 0 m = _ from L sz 2100 0 (by omega) (by omega))]
  rfl
/-- what of a segment its place gives, on both sides -/
theorem op_row (h : Inv X c m) (a b d : Int32) : ∃ r m1 m2, cl 3 X (f_X3_row X a b d) m = some (r, m1) ∧ cl 4 (X + 12) (f_X4_row (X + 12) a b d) m1 = some (r, m2) ∧ Inv X (c + 1) m2 := by
  refine op_q h ?_
  have hL := h.1
  obtain ⟨-, -, nS, nn, us, od, sa, sz, num, ti, rk, rv, lv, v, nM, mk, loc, tt, gn, ca, hIS, hIL, -, -⟩ := h
  have hL2 : SL X (setI m (X + 12) 0 0) := hL
  have hIL2 : IL X us sa sz rk lv v nM mk loc tt (setI m (X + 12) 0 0) := IL_t hIL (IS_sa hIS).1
  have hIS2 : IS X c nS nn us od sa sz num ti rk rv (setI m (X + 12) 0 0) := IS_t hIS
  obtain ⟨s1, s2, s3, s4, s5, -⟩ := hIS
  obtain ⟨t1, t2, -⟩ := hIS2
  have hlv := hIL.2.2.2.2.1
  have hlv2 := hIL2.2.2.2.2.1
  have hn := s3.1
  unfold f_X3_row f_X4_row
  rw [q_pI12 hL, q_cl0 hL, q_cl12 hL2]
  rcases placeX hL s1.1.1 hn a with ⟨p, hp, rfl, e⟩ | ⟨hp, e⟩
  · rcases placeQ hL2 t1.1.2 hn (nI p) with ⟨p2, hp2, ew, e2⟩ | ⟨hp2, e2⟩
    · obtain ⟨o1, o2⟩ := s3.2.1 p hp
      obtain ⟨⟨⟨y1, y2, y3, y4, y5⟩, ⟨y6, y7, y8, y9⟩, ⟨z1, z2, z3, z4⟩, ⟨z5, z6, z7⟩, z8⟩, -⟩ := s2 _ o2
      obtain ⟨-, ⟨⟨x1, x2, x3⟩, x4⟩⟩ := t2 _ o2
      have hz := (s4 _ o2).1
      have r1 := (s1.2.1 p hp).1
      have r2 := (t1.2.1 p hp).2
      have lx := (hlv _ o2).1.2
      have lq := (hlv2 _ o2).2
      have hX : (∃ i, i < sz (od p) ∧ b = nI i ∧ f_X2_hasRow (sa (od p)) b m = some (1, m)) ∨ ((∀ i, i < sz (od p) → b ≠ nI i) ∧ f_X2_hasRow (sa (od p)) b m = some (0, m)) := by
        unfold f_X2_hasRow
        rcases pk_ix b (n := sz (od p)) (by omega) with h | h | ⟨i, hi, rfl⟩
        · exact Or.inr ⟨fun k hk => nI_neg h k (by omega), by rw [i_t h]; rfl⟩
        · refine Or.inr ⟨fun k hk => nI_big (by omega) h k hk, ?_⟩
          by_cases h0 : b < 0
          · rw [i_t h0]; rfl
          · rw [i_f h0, b_gI y1, z7, i_t h]; rfl
        · refine Or.inl ⟨i, hi, rfl, ?_⟩
          rw [i_f (nI_pos (by omega)), b_gI y1, z7, i_f (leN hi (by omega))]; rfl
      have eA : f_X3_isPlace X (nI p) m = some (1, m) := e
      rcases hX with ⟨i, hi, rfl, e3⟩ | ⟨hi, e3⟩
      · rcases in_spec (nI i) (lo := 0) (hi := nI (sz (od p)) - 1) 0 (sz (od p)) rfl (n1_toInt (by omega)) (by omega) (setI m (X + 12) 0 0) with ⟨i2, -, hi2, ei, e4⟩ | ⟨hi2, e4⟩
        · have key : ∀ (r : Int32) (KX KQ : HM Int32), KX m = some (r, m) → KQ (setI m (X + 12) 0 0) = some (r, setI m (X + 12) 0 0) → True := fun _ _ _ _ _ => trivial
          by_cases d0 : d = 0
          · refine ⟨nI (rk (od p) i), ?_, ?_⟩
            · rw [b_eq e, i_f n10, q_gN0_2 hL, q_lR5 hL (by omega) r1, b_cle y1 e3, i_f n10, q_gN0_2 hL, q_lR5 hL (by omega) r1, i_t d0, b_gN y1 y2, b_lI y6 z1 hi (by omega), (z8 i hi).1]; rfl
            · rw [b_eq e2, i_f n10, q_gN12_12 hL2, q_gN12_8 hL2, q_lI18 hL2 (by omega), r2, q_lI22 hL2 o1, x3, b_eq e4, i_f n10, q_gN12_8 hL2, q_lI18 hL2 (by omega), r2, i_t d0, q_gN12_13 hL2, nI100, q_lI23 hL2 (by omega), (x4 i hi).1]; rfl
          · by_cases d1 : d = 1
            · refine ⟨rv (od p) i, ?_, ?_⟩
              · rw [b_eq e, i_f n10, q_gN0_2 hL, q_lR5 hL (by omega) r1, b_cle y1 e3, i_f n10, q_gN0_2 hL, q_lR5 hL (by omega) r1, i_f d0, i_t d1, b_gN y1 y3, b_lI y7 z2 hi (by omega), (z8 i hi).2]; rfl
              · rw [b_eq e2, i_f n10, q_gN12_12 hL2, q_gN12_8 hL2, q_lI18 hL2 (by omega), r2, q_lI22 hL2 o1, x3, b_eq e4, i_f n10, q_gN12_8 hL2, q_lI18 hL2 (by omega), r2, i_f d0, i_t d1, q_gN12_14 hL2, nI100, q_lI24 hL2 (by omega), (x4 i hi).2]; rfl
            · by_cases d2 : d = 2
              · refine ⟨b2i (lv (od p) i), ?_, ?_⟩
                · rw [b_eq e, i_f n10, q_gN0_2 hL, q_lR5 hL (by omega) r1, b_cle y1 e3, i_f n10, q_gN0_2 hL, q_lR5 hL (by omega) r1, i_f d0, i_f d1, i_t d2, b_gN y1 y4, b_lI y8 z3 hi (by omega), lx i hi]
                  cases lv (od p) i
                  · rw [i_t (by rfl)]; rfl
                  · rw [i_f (by decide)]; rfl
                · rw [b_eq e2, i_f n10, q_gN12_12 hL2, q_gN12_8 hL2, q_lI18 hL2 (by omega), r2, q_lI22 hL2 o1, x3, b_eq e4, i_f n10, q_gN12_8 hL2, q_lI18 hL2 (by omega), r2, i_f d0, i_f d1, i_t d2, q_gN12_15 hL2, nI100, q_lI25 hL2 (by omega), lq i hi]
                  cases lv (od p) i
                  · rw [i_t (by rfl)]; rfl
                  · rw [i_f (by decide)]; rfl
              · refine ⟨-2, ?_, ?_⟩
                · rw [b_eq e, i_f n10, q_gN0_2 hL, q_lR5 hL (by omega) r1, b_cle y1 e3, i_f n10, q_gN0_2 hL, q_lR5 hL (by omega) r1, i_f d0, i_f d1, i_f d2]; rfl
                · rw [b_eq e2, i_f n10, q_gN12_12 hL2, q_gN12_8 hL2, q_lI18 hL2 (by omega), r2, q_lI22 hL2 o1, x3, b_eq e4, i_f n10, q_gN12_8 hL2, q_lI18 hL2 (by omega), r2, i_f d0, i_f d1, i_f d2]; rfl
        · exact absurd rfl (hi2 i (by omega) hi)
      · rcases in_spec b (lo := 0) (hi := nI (sz (od p)) - 1) 0 (sz (od p)) rfl (n1_toInt (by omega)) (by omega) (setI m (X + 12) 0 0) with ⟨i2, -, hi2, ei, e4⟩ | ⟨hi2, e4⟩
        · exact absurd ei (hi i2 hi2)
        · refine ⟨-1, ?_, ?_⟩
          · rw [b_eq e, i_f n10, q_gN0_2 hL, q_lR5 hL (by omega) r1, b_cle y1 e3, i_t (by rfl)]; rfl
          · rw [b_eq e2, i_f n10, q_gN12_12 hL2, q_gN12_8 hL2, q_lI18 hL2 (by omega), r2, q_lI22 hL2 o1, x3, b_eq e4, i_t (by rfl)]; rfl
    · exact absurd rfl (hp2 p hp)
  · rcases placeQ hL2 t1.1.2 hn a with ⟨p2, hp2, ew, e2⟩ | ⟨hp2, e2⟩
    · exact absurd ew (hp p2 hp2)
    · exact ⟨-1, by rw [b_eq e, i_t (by rfl)]; rfl, by rw [b_eq e2, i_t (by rfl)]; rfl⟩
theorem op_segment (h : Inv X c m) (a d : Int32) : ∃ r m1 m2, cl 3 X (f_X3_segment X a d) m = some (r, m1) ∧ cl 4 (X + 12) (f_X4_segment (X + 12) a d) m1 = some (r, m2) ∧ Inv X (c + 1) m2 := by
  refine op_q h ?_
  have hL := h.1
  obtain ⟨-, -, nS, nn, us, od, sa, sz, num, ti, rk, rv, lv, v, nM, mk, loc, tt, gn, ca, hIS, hIL, ⟨gp, gt, gw, gl, ga, gg, wk, wi, nk, nv, nt, ⟨g1, g2, g3⟩, g4⟩, -⟩ := h
  have hL2 : SL X (setI m (X + 12) 0 0) := hL
  have hIL2 : IL X us sa sz rk lv v nM mk loc tt (setI m (X + 12) 0 0) := IL_t hIL (IS_sa hIS).1
  have hIS2 : IS X c nS nn us od sa sz num ti rk rv (setI m (X + 12) 0 0) := IS_t hIS
  obtain ⟨s1, s2, s3, s4, s5, -⟩ := hIS
  obtain ⟨t1, t2, -⟩ := hIS2
  have hlv := hIL.2.2.2.2.1
  have hlv2 := hIL2.2.2.2.2.1
  have hn := s3.1
  unfold f_X3_segment f_X4_segment
  rw [q_pI12 hL, q_cl0 hL, q_cl12 hL2]
  rcases placeX hL s1.1.1 hn a with ⟨p, hp, rfl, e⟩ | ⟨hp, e⟩
  · rcases placeQ hL2 t1.1.2 hn (nI p) with ⟨p2, hp2, ew, e2⟩ | ⟨hp2, e2⟩
    · obtain ⟨o1, o2⟩ := s3.2.1 p hp
      obtain ⟨⟨⟨y1, y2, y3, y4, y5⟩, ⟨y6, y7, y8, y9⟩, ⟨z1, z2, z3, z4⟩, ⟨z5, z6, z7⟩, z8⟩, -⟩ := s2 _ o2
      obtain ⟨-, ⟨⟨x1, x2, x3⟩, x4⟩⟩ := t2 _ o2
      have hz := (s4 _ o2).1
      have r1 := (s1.2.1 p hp).1
      have r2 := (t1.2.1 p hp).2
      have hb : ∀ j, j ≠ 0 → mI (setI m (X + 12) 0 0) (X + 12) j = mI m (X + 12) j := fun j hj => by rw [mI_setI, if_neg (by omega)]
      by_cases d0 : d = 0
      · refine ⟨nI (num (od p)), ?_, ?_⟩
        · rw [b_eq e, i_f n10, q_gN0_2 hL, q_lR5 hL (by omega) r1, i_t d0, b_gI y1, z5]; rfl
        · rw [b_eq e2, i_f n10, q_gN12_8 hL2, q_lI18 hL2 (by omega), r2, i_t d0, q_gN12_10 hL2, q_lI20 hL2 o1, x1]; rfl
      · by_cases d1 : d = 1
        · refine ⟨nI (ti (od p)), ?_, ?_⟩
          · rw [b_eq e, i_f n10, q_gN0_2 hL, q_lR5 hL (by omega) r1, i_f d0, i_t d1, b_gI y1, z6]; rfl
          · rw [b_eq e2, i_f n10, q_gN12_8 hL2, q_lI18 hL2 (by omega), r2, i_f d0, i_t d1, q_gN12_11 hL2, q_lI21 hL2 o1, x2]; rfl
        · by_cases d2 : d = 2
          · refine ⟨nI (sz (od p)), ?_, ?_⟩
            · rw [b_eq e, i_f n10, q_gN0_2 hL, q_lR5 hL (by omega) r1, i_f d0, i_f d1, i_t d2, b_gI y1, z7]; rfl
            · rw [b_eq e2, i_f n10, q_gN12_8 hL2, q_lI18 hL2 (by omega), r2, i_f d0, i_f d1, i_t d2, q_gN12_12 hL2, q_lI22 hL2 o1, x3]; rfl
          · by_cases d3 : d = 3
            · refine ⟨nI (cnt (lv (od p)) (sz (od p))), ?_, ?_⟩
              · rw [b_eq e, i_f n10, q_gN0_2 hL, q_lR5 hL (by omega) r1, i_f d0, i_f d1, i_f d2, i_t d3, b_gI y1, (hlv _ o2).1.1]; rfl
              · rw [b_eq e2, i_f n10, q_gN12_8 hL2, q_lI18 hL2 (by omega), r2, i_f d0, i_f d1, i_f d2, i_t d3, q_cl12 hL2, b_eq (living_eq hL2 o1 x3 hz (hlv2 _ o2).2)]; rfl
            · by_cases d4 : d = 4
              · by_cases hg : gn = 0
                · refine ⟨0, ?_, ?_⟩
                  · rw [b_eq e, i_f n10, q_gN0_2 hL, q_lR5 hL (by omega) r1, i_f d0, i_f d1, i_f d2, i_f d3, i_t d4, q_gR0 hL, g2 hg]; rfl
                  · rw [b_eq e2, i_f n10, q_gN12_8 hL2, q_lI18 hL2 (by omega), r2, i_f d0, i_f d1, i_f d2, i_f d3, i_t d4, q_gI12 hL2, hb 19 (by decide), g1, hg, i_t (by decide)]; rfl
                · obtain ⟨e1, ⟨⟨q1, q2, q3, q4, q5, q6, q7⟩, ⟨u1, u2, u3, u4⟩, u5⟩, ⟨v1, v2, v3⟩, -⟩ := g3 (by omega)
                  rcases g4.2 with g4 | ⟨⟨w1, w2, w3⟩, -⟩
                  · exact absurd g4 hg
                  have hof : f_X1_isOf ca (nI p) m = some (if gp ≤ p ∧ p < gp + gn then 1 else 0, m) := by
                    unfold f_X1_isOf
                    rw [b_gI q1, u1]
                    by_cases c1 : p < gp
                    · rw [i_t ((nI_ltI (by omega) (by omega)).mpr c1), if_neg (by omega)]; rfl
                    · rw [i_f (fun q => c1 ((nI_ltI (by omega) (by omega)).mp q)), b_gI q1, u1, b_gN q1 q2, b_ln q4 q6, nI_add]
                      by_cases c2 : gp + gn ≤ p
                      · rw [i_t (leL c2 (by omega)), if_neg (by omega)]; rfl
                      · rw [i_f (leN (by omega) (by omega)), if_pos (by omega)]; rfl
                  have hin : f_X4_in (nI p) (nI gp) (nI gp + nI gn - 1) (setI m (X + 12) 0 0) = some (if gp ≤ p ∧ p < gp + gn then 1 else 0, setI m (X + 12) 0 0) := by
                    rw [in_eq, nI_add, n1_toInt (by omega), nI_toInt (by omega), nI_toInt (by omega)]
                    by_cases c1 : gp ≤ p ∧ p < gp + gn
                    · rw [if_pos (by omega), if_pos c1]
                    · rw [if_neg (by omega), if_neg c1]
                  refine ⟨if gp ≤ p ∧ p < gp + gn then 1 else 0, ?_, ?_⟩
                  · rw [b_eq e, i_f n10, q_gN0_2 hL, q_lR5 hL (by omega) r1, i_f d0, i_f d1, i_f d2, i_f d3, i_t d4, q_gR0 hL, e1]
                    show bnd _ _ m = _
                    rw [q_gR0 hL, e1]
                    show bnd _ _ m = _
                    rw [b_cle q1 hof]
                    by_cases c1 : gp ≤ p ∧ p < gp + gn
                    · rw [if_pos c1, i_f n10]; rfl
                    · rw [if_neg c1, i_t (by rfl)]; rfl
                  · rw [b_eq e2, i_f n10, q_gN12_8 hL2, q_lI18 hL2 (by omega), r2, i_f d0, i_f d1, i_f d2, i_f d3, i_t d4, q_gI12 hL2, hb 19 (by decide), g1, i_f (show ¬ nI gn ≤ (0 : Int32) from nI_nle (by omega) (by omega)), q_gI12 hL2, hb 20 (by decide), v1, q_gI12 hL2, hb 20 (by decide), v1, q_gI12 hL2, hb 19 (by decide), g1, b_eq hin]
                    by_cases c1 : gp ≤ p ∧ p < gp + gn
                    · rw [if_pos c1, i_f n10]; rfl
                    · rw [if_neg c1, i_t (by rfl)]; rfl
              · refine ⟨-2, ?_, ?_⟩
                · rw [b_eq e, i_f n10, q_gN0_2 hL, q_lR5 hL (by omega) r1, i_f d0, i_f d1, i_f d2, i_f d3, i_f d4]; rfl
                · rw [b_eq e2, i_f n10, q_gN12_8 hL2, q_lI18 hL2 (by omega), r2, i_f d0, i_f d1, i_f d2, i_f d3, i_f d4]; rfl
    · exact absurd rfl (hp2 p hp)
  · rcases placeQ hL2 t1.1.2 hn a with ⟨p2, hp2, ew, e2⟩ | ⟨hp2, e2⟩
    · exact absurd ew (hp p2 hp2)
    · exact ⟨-1, by rw [b_eq e, i_t (by rfl)]; rfl, by rw [b_eq e2, i_t (by rfl)]; rfl⟩
end OPS3
